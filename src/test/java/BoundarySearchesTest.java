/**
 * The sentences of the document's Terms that name a boundary, in its order, each with a test of its
 * own: searches and repairs, requests, replies, errors, breaks, and the order of events. Each part
 * bears the sentence.
 */
public final class BoundarySearchesTest {
  public static void main(String[] args) {
    afterTheIncrease();
    numberOfTheEntry();
    patienceTimesRangeAndOne();
    ringsUpToTheThreshold();
    timeoutOfSearch();
    timeoutOfRepair();
    replyInTheLastMoment();
    validByTheReply();
    aRouteThatWasValidEndsNothing();
    ownNumberLessThanAsked();
    answerWhileTheRouteIsValid();
    answerAtLeastAsAskedFor();
    passedOnWithRangeAboveOne();
    replyWithFewerThanThirtyHops();
    replyWhileTheRouteBackIsValid();
    errorWhileTheRouteIsValid();
    errorWithoutUsers();
    breakWhileTheRouteIsValid();
    breakOfALinkThatIsDown();
    breakByDestinations();
    breakBeginsAtTheSmallerNode();
    packetsOnTheBrokenLink();
    arrivalsBeforeTimeouts();
    arrivalsInTheOrderOfSending();
    timeoutsByNodesAndDestinations();
    Check.end("BoundarySearchesTest");
  }

  /** 0 - 1 - 2, over which packet 0 went from 0 to 2 until 6, so that 0 is a user at 1. */
  private static MeshRouting threeAt6() {
    MeshRouting x = Check.mesh(5, 0, 1, 1, 2);
    x.setParameter(1, 2);
    x.send(0, 2);
    x.run(6);
    Check.due("expiry(0, 2)", x.expiry(0, 2), 64);
    Check.due("expiry(1, 2)", x.expiry(1, 2), 65);
    return x;
  }

  // ---- searches and repairs

  private static void afterTheIncrease() {
    Check.part("\"after the increase, as is the sequence number\"");
    MeshRouting x = Check.mesh(3, 0, 1);
    Check.due("sequence(0, 0) before", x.sequence(0, 0), 0);
    x.send(0, 2);
    Check.due("sequence(0, 0)", x.sequence(0, 0), 1);
    x.run(1);
    Check.due("sequence(1, 0)", x.sequence(1, 0), 1);
    x.run(40);
    Check.due("sequence(0, 0)", x.sequence(0, 0), 2);
    Check.due("sequence(1, 0)", x.sequence(1, 0), 2);
  }

  private static void numberOfTheEntry() {
    Check.part("\"-1 if there is none, or it is not known\"");
    MeshRouting x = Check.mesh(3, 0, 1);
    x.send(0, 1);
    x.run(1);
    Check.due("sequence(1, 1): there was no entry", x.sequence(1, 1), 0);
    x.run(2);
    MeshRouting y = Check.mesh(4, 0, 1, 1, 2);
    y.setParameter(1, 2);
    y.send(2, 3);
    y.run(2);
    Check.due("sequence(0, 1)", y.sequence(0, 1), -1);
    // The route of 0 to 1 expires, so that 0 asks for 1, whose number it does not know.
    y.setLink(0, 1, 0);
    y.setLink(0, 1, 1);
    Check.due("sequence(0, 1)", y.sequence(0, 1), -1);
    y.send(0, 1);
    y.run(1);
    Check.due("sequence(1, 1)", y.sequence(1, 1), 0);
    Check.due("inFlight(1)", y.inFlight(1), 1);
  }

  private static void patienceTimesRangeAndOne() {
    Check.part("\"the present time plus patience * (r + 1)\"");
    for (int patience : new int[] {1, 2, 49, 50}) {
      for (int start : new int[] {1, 2, 9, 10}) {
        for (int diameter : new int[] {1, 15}) {
          MeshRouting x = new MeshRouting(2);
          x.setParameter(1, start);
          x.setParameter(3, 1);
          x.setParameter(4, diameter);
          x.setParameter(5, 1);
          x.setParameter(6, patience);
          x.run(3);
          x.send(0, 1);
          int first = 3 + patience * (start + 1);
          Check.due("timeout(0, 1)", x.timeout(0, 1), first);
          Check.due("nextEvent()", x.nextEvent(), first);
          Check.due("step()", x.step(), 4);
          Check.due("timeout(0, 1)", x.timeout(0, 1), first + patience * (diameter + 1));
          x.step();
          Check.due("timeout(0, 1) at the end", x.timeout(0, 1), -1);
        }
      }
    }
  }

  private static void ringsUpToTheThreshold() {
    Check.part("\"r is less than threshold\", \"min(r + step, threshold)\", \"as often as tries says\"");
    for (int start = 1; start <= 10; start++) {
      for (int step = 1; step <= 10; step += step == 3 ? 6 : 1) {
        for (int threshold = 1; threshold <= 10; threshold++) {
          for (int diameter : new int[] {1, start, threshold, 10, 15}) {
            asks(start, step, threshold, diameter, 1 + (start + step + threshold) % 3);
          }
        }
      }
    }
  }

  private static void asks(int start, int step, int threshold, int diameter, int tries) {
    int[] values = {start, step, threshold, diameter, tries};
    MeshRouting x = new MeshRouting(2);
    StringBuilder name = new StringBuilder("the range by");
    for (int k = 0; k < values.length; k++) {
      x.setParameter(k + 1, values[k]);
      name.append(" ").append(values[k]);
    }
    x.send(0, 1);
    int range = start;
    while (true) {
      Check.due(name.toString(), x.timeout(0, 1) - x.time(), 20 * (range + 1));
      Check.due("step()", x.step(), 4);
      if (range >= threshold) {
        break;
      }
      range = Math.min(range + step, threshold);
    }
    for (int left = tries; left > 0; left--) {
      Check.due(name + ", diameter", x.timeout(0, 1) - x.time(), 20 * (diameter + 1));
      Check.due("whyDropped(0, 1)", x.whyDropped(0, 1), 0);
      Check.due("step()", x.step(), 4);
    }
    Check.due(name + ": the end", x.searching(0, 1), 0);
    Check.due("whyDropped(0, 1)", x.whyDropped(0, 1), 11);
    Check.due("endOf(0)", x.endOf(0), x.time());
  }

  private static void timeoutOfSearch() {
    Check.part("\"when the timeout of a search comes\", and one unit before");
    MeshRouting x = new MeshRouting(2);
    x.setParameter(3, 1);
    x.setParameter(5, 1);
    x.send(0, 1);
    Check.due("run(39)", x.run(39), 0);
    Check.due("timeout(0, 1)", x.timeout(0, 1), 40);
    Check.due("run(1)", x.run(1), 1);
    Check.due("timeout(0, 1)", x.timeout(0, 1), 40 + 220);
    for (int packet = 1; packet < 4; packet++) {
      x.send(0, 1);
    }
    Check.due("run(219)", x.run(219), 0);
    Check.due("packets(0)", x.packets(0), 4);
    Check.due("run(1)", x.run(1), 1);
    for (int packet = 0; packet < 4; packet++) {
      Check.due("whyDropped(" + packet + ", 1)", x.whyDropped(packet, 1), 11);
      Check.due("endOf(" + packet + ")", x.endOf(packet), 260);
    }
    Check.due("buffered(0, 1)", x.buffered(0, 1), 0);
    Check.due("nextEvent()", x.nextEvent(), -1);
  }

  private static void timeoutOfRepair() {
    Check.part("\"when the timeout of a repair comes\", and one unit before");
    MeshRouting x = PacketsTest.chainAt9();
    x.send(0, 3);
    x.setLink(1, 2, 0);
    x.run(1);
    Check.due("timeout(1, 3)", x.timeout(1, 3), 10 + 20 * 5);
    x.run(99);
    Check.due("searching(1, 3)", x.searching(1, 3), 2);
    Check.due("stateOf(1)", x.stateOf(1), 0);
    Check.due("run(1)", x.run(1), 1);
    Check.due("searching(1, 3)", x.searching(1, 3), 0);
    Check.due("timeout(1, 3)", x.timeout(1, 3), -1);
    Check.due("whyDropped(1, 1)", x.whyDropped(1, 1), 13);
    Check.due("endOf(1)", x.endOf(1), 110);
    Check.due("hopsOf(1)", x.hopsOf(1), 1);
  }

  private static void replyInTheLastMoment() {
    Check.part("a reply that comes just at the timeout, and one unit after it");
    // The delay, and the patience for a range of 2.
    int[][] cases = {{3, 2, 1}, {6, 4, 1}, {9, 6, 1}, {4, 3, 1}, {2, 1, 2}, {5, 3, 2}, {8, 5, 2}};
    for (int[] one : cases) {
      MeshRouting x = new MeshRouting(2);
      x.setLink(0, 1, one[0]);
      x.setParameter(1, 2);
      x.setParameter(6, one[1]);
      x.send(0, 1);
      x.run(2 * one[0]);
      Check.due("searching(0, 1)", x.searching(0, 1), 0);
      Check.due("inFlight(3)", x.inFlight(3), 1);
      Check.due("sent(0)", x.sent(0), one[2]);
      x.run(one[0]);
      Check.due("endOf(0)", x.endOf(0), 3 * one[0]);
    }
  }

  private static void validByTheReply() {
    Check.part("\"becomes valid by learning\": the reply expires just now, and one unit later");
    for (int lifetime = 10; lifetime <= 11; lifetime++) {
      boolean ends = lifetime == 11;
      MeshRouting x = Check.mesh(3, 1, 2);
      x.setLink(0, 1, 9);
      x.setParameter(0, lifetime);
      x.setParameter(1, 2);
      x.send(0, 2);
      x.run(20);
      Check.due("sequence(0, 2)", x.sequence(0, 2), 0);
      Check.due("isValid(0, 2)", x.isValid(0, 2), ends);
      Check.due("searching(0, 2)", x.searching(0, 2), ends ? 0 : 1);
      Check.due("timeout(0, 2)", x.timeout(0, 2), ends ? -1 : 60);
      Check.due("buffered(0, 2)", x.buffered(0, 2), ends ? 0 : 1);
      Check.due("stateOf(0)", x.stateOf(0), ends ? 1 : 0);
    }
  }

  private static void aRouteThatWasValidEndsNothing() {
    Check.part("\"while a search or a repair for d is going on there\": for another destination");
    MeshRouting x = threeAt6();
    x.send(0, 3);
    x.send(0, 4);
    x.run(2);
    x.send(2, 0);
    x.run(2);
    Check.due("stateOf(3)", x.stateOf(3), 2);
    Check.due("searching(0, 3)", x.searching(0, 3), 1);
    Check.due("searching(0, 4)", x.searching(0, 4), 1);
    Check.due("buffered(0, 3)", x.buffered(0, 3), 1);
  }

  // ---- requests

  private static void ownNumberLessThanAsked() {
    Check.part("\"its own sequence number becomes q if it is less than q\"");
    for (int asks = 0; asks <= 2; asks++) {
      MeshRouting x = Check.mesh(5, 0, 1);
      x.send(0, 1);
      x.run(3);
      x.setLink(0, 1, 0);
      Check.due("sequence(0, 1)", x.sequence(0, 1), 1);
      for (int ask = 0; ask < asks; ask++) {
        x.send(1, 2 + ask);
      }
      Check.due("sequence(1, 1) before", x.sequence(1, 1), asks);
      x.setLink(0, 1, 1);
      x.send(0, 1);
      x.run(1);
      Check.due("sequence(1, 1)", x.sequence(1, 1), Math.max(1, asks));
      x.run(1);
      Check.due("sequence(0, 1)", x.sequence(0, 1), Math.max(1, asks));
    }
  }

  private static void answerWhileTheRouteIsValid() {
    Check.part("\"if the route of i to d is valid\": it expires just now");
    for (int now = 64; now <= 65; now++) {
      MeshRouting x = threeAt6();
      x.setLink(1, 3, 1);
      x.run(now - 1 - 6);
      int replies = x.sent(1);
      x.send(3, 2);
      x.run(1);
      Check.due("time()", x.time(), now);
      Check.due("inFlight(1) at " + now, x.inFlight(1), now == 64 ? 1 : 0);
      Check.due("sent(1) at " + now, x.sent(1), replies + (now == 64 ? 1 : 0));
      Check.due("passed on at " + now, x.inFlight(0), now == 64 ? 0 : 3);
      Check.due("users(1, 2) at " + now, x.users(1, 2), now == 64 ? 9 : 1);
      Check.due("users(1, 3) at " + now, x.users(1, 3), now == 64 ? 4 : 0);
    }
  }

  private static void answerAtLeastAsAskedFor() {
    Check.part("\"its sequence number is known and at least q\"");
    for (int number = 0; number <= 2; number++) {
      MeshRouting x = threeAt6();
      x.setLink(0, 1, 0);
      Check.due("sequence(0, 2), which is asked for", x.sequence(0, 2), 1);
      x.setParameter(1, 1);
      for (int ask = 0; ask < number; ask++) {
        x.send(2, 3 + ask);
      }
      x.run(1);
      x.setLink(0, 1, 1);
      Check.due("sequence(1, 2)", x.sequence(1, 2), number);
      x.setParameter(1, 2);
      x.send(0, 2);
      x.run(1);
      Check.due("answers, with the number " + number, x.inFlight(1), number >= 1 ? 1 : 0);
      Check.due("passed on, with the number " + number, x.inFlight(0), number >= 1 ? 0 : 2);
    }
  }

  private static void passedOnWithRangeAboveOne() {
    Check.part("\"if r is greater than 1\"");
    for (int range = 1; range <= 10; range++) {
      MeshRouting x = Check.mesh(10, 0, 1, 1, 2, 2, 3, 3, 4, 4, 5, 5, 6, 6, 7, 7, 8);
      x.setParameter(1, range);
      x.send(0, 9);
      x.run(20);
      for (int node = 1; node <= 8; node++) {
        Check.due("hops(" + node + ", 0) for range " + range, x.hops(node, 0),
            node <= range ? node : -1);
      }
      // 0 sends 1, each one that passes it on 2, but 8, at the end, only 1.
      int passing = Math.min(range - 1, 8);
      Check.due("sent(0) for range " + range, x.sent(0), 1 + 2 * passing - (passing == 8 ? 1 : 0));
    }
  }

  // ---- replies and errors

  private static void replyWithFewerThanThirtyHops() {
    Check.part("\"h is less than 30\"");
    MeshRouting x = Loop.made();
    x.run(100);
    x.setLink(0, 1, 1);
    x.setLink(0, 3, 1);
    x.setLink(2, 4, 1);
    x.setParameter(1, 4);
    int replies = x.sent(1);
    x.send(3, 4);
    x.run(4);
    for (int hops = 0; hops <= 30; hops++) {
      Check.due("inFlight(1) with " + hops + " hops", x.inFlight(1), 1);
      Check.due("sent(1) with " + hops + " hops", x.sent(1), replies + hops + 1);
      x.run(1);
    }
    Check.due("inFlight(1) behind 30 hops", x.inFlight(1), 0);
    Check.due("sent(1) behind 30 hops", x.sent(1), replies + 31);
  }

  private static void replyWhileTheRouteBackIsValid() {
    Check.part("\"the route of i to o is valid\": it expires just now");
    for (int lifetime = 18; lifetime <= 19; lifetime++) {
      MeshRouting x = new MeshRouting(3);
      x.setLink(0, 1, 1);
      x.setLink(1, 2, 9);
      x.setParameter(0, lifetime);
      x.setParameter(1, 2);
      x.send(0, 2);
      x.run(19);
      Check.due("expiry(1, 0)", x.expiry(1, 0), 1 + lifetime);
      Check.due("sent(1)", x.sent(1), lifetime == 19 ? 2 : 1);
      Check.due("inFlight(1)", x.inFlight(1), lifetime == 19 ? 1 : 0);
      Check.due("users(1, 2)", x.users(1, 2), lifetime == 19 ? 1 : 0);
      Check.due("hops(1, 2)", x.hops(1, 2), 1);
    }
  }

  private static void errorWhileTheRouteIsValid() {
    Check.part("an error, \"if the route of i to d is valid\": it expires just now");
    for (int now = 63; now <= 64; now++) {
      MeshRouting x = threeAt6();
      x.run(now - 1 - 6);
      x.setLink(1, 2, 0);
      Check.due("inFlight(2)", x.inFlight(2), 1);
      x.run(1);
      Check.due("isValid(0, 2) at " + now, x.isValid(0, 2), false);
      Check.due("sequence(0, 2) at " + now, x.sequence(0, 2), now == 63 ? 1 : 0);
    }
  }

  private static void errorWithoutUsers() {
    Check.part("\"to each user of the entry\": none");
    MeshRouting x = threeAt6();
    x.setLink(0, 3, 1);
    x.setLink(1, 2, 0);
    Check.due("users(0, 2)", x.users(0, 2), 0);
    x.run(1);
    Check.due("isValid(0, 2)", x.isValid(0, 2), false);
    Check.due("sent(2)", x.sent(2), 1);
    Check.due("inFlight(2)", x.inFlight(2), 0);
  }

  // ---- breaks

  private static void breakWhileTheRouteIsValid() {
    Check.part("a break, \"whose route is valid there\": it expires just now");
    for (int now = 64; now <= 65; now++) {
      MeshRouting x = threeAt6();
      x.run(now - 6);
      x.setLink(1, 2, 0);
      Check.due("sequence(1, 2) at " + now, x.sequence(1, 2), now == 64 ? 1 : 0);
      Check.due("users(1, 2) at " + now, x.users(1, 2), now == 64 ? 0 : 1);
      Check.due("sent(2) at " + now, x.sent(2), now == 64 ? 1 : 0);
    }
  }

  private static void breakOfALinkThatIsDown() {
    Check.part("\"a link that is up\": only such a one breaks");
    MeshRouting x = threeAt6();
    Check.due("setLink(1, 2, 9)", x.setLink(1, 2, 9), 1);
    Check.due("isValid(1, 2)", x.isValid(1, 2), true);
    x.send(2, 3);
    long before = x.fingerprint();
    Check.due("setLink(0, 2, 0)", x.setLink(0, 2, 0), 0);
    Check.due("setLink(3, 4, 0)", x.setLink(3, 4, 0), 0);
    Check.due("fingerprint()", x.fingerprint(), before);
    Check.due("setLink(1, 2, 0)", x.setLink(1, 2, 0), 9);
    Check.due("sequence(1, 2)", x.sequence(1, 2), 1);
    before = x.fingerprint();
    Check.due("setLink(1, 2, 0) again", x.setLink(1, 2, 0), 0);
    Check.due("fingerprint()", x.fingerprint(), before);
  }

  private static void breakByDestinations() {
    Check.part("\"for each destination in ascending order\"");
    for (int way = 0; way < 2; way++) {
      MeshRouting x = Check.mesh(5, 0, 1, 1, 2, 2, 3);
      x.setParameter(1, 3);
      x.send(0, 2 + way);
      x.run(9);
      x.send(0, 3 - way);
      x.run(9);
      Check.due("users(1, 2)", x.users(1, 2), 1);
      Check.due("users(1, 3)", x.users(1, 3), 1);
      x.setLink(1, 2, 0);
      Check.due("inFlight(2)", x.inFlight(2), 2);
      Check.due("step()", x.step(), 2);
      Check.due("isValid(0, 2)", x.isValid(0, 2), false);
      Check.due("isValid(0, 3)", x.isValid(0, 3), true);
      Check.due("step()", x.step(), 2);
      Check.due("isValid(0, 3)", x.isValid(0, 3), false);
    }
  }

  private static void breakBeginsAtTheSmallerNode() {
    Check.part("\"first at the node with the smaller number and then at the other one\"");
    for (int way = 0; way < 2; way++) {
      // 0 - 1 - 2 - 3; 0 is a user at 1 for 3, and 3 is one at 2 for 0.
      MeshRouting x = Check.mesh(4, 0, 1, 1, 2, 2, 3);
      x.setParameter(1, 3);
      x.send(0, 3);
      x.run(100);
      x.send(3, 0);
      x.run(9);
      x.send(0, 3);
      x.run(9);
      Check.due("users(1, 3)", x.users(1, 3), 1);
      Check.due("users(2, 0)", x.users(2, 0), 8);
      x.setLink(1 + way, 2 - way, 0);
      int errors = x.inFlight(2);
      Check.due("errors at both ends", errors, 2);
      Check.due("step()", x.step(), 2);
      Check.due("isValid(0, 3): 0 is told by 1", x.isValid(0, 3), false);
      Check.due("isValid(3, 0): 3 is told by 2", x.isValid(3, 0), true);
      Check.due("step()", x.step(), 2);
      Check.due("isValid(3, 0)", x.isValid(3, 0), false);
    }
  }

  private static void packetsOnTheBrokenLink() {
    Check.part("\"packets that were on the link are dropped\": the first and the last number");
    MeshRouting x = Check.mesh(2, 0, 1);
    x.send(0, 1);
    x.run(2);
    Check.due("stateOf(0)", x.stateOf(0), 1);
    x.send(1, 0);
    Check.due("stateOf(1)", x.stateOf(1), 1);
    x.setLink(0, 1, 0);
    for (int packet = 0; packet < 2; packet++) {
      Check.due("stateOf(" + packet + ")", x.stateOf(packet), 3);
      Check.due("whyDropped(" + packet + ", 1)", x.whyDropped(packet, 1), 22);
      Check.due("whyDropped(" + packet + ", 0)", x.whyDropped(packet, 0), 2);
      Check.due("nodeOf(" + packet + ")", x.nodeOf(packet), 1 - packet);
      Check.due("endOf(" + packet + ")", x.endOf(packet), 2);
      Check.due("hopsOf(" + packet + ")", x.hopsOf(packet), 1);
    }
    MeshRouting y = Check.mesh(2, 0, 1);
    y.send(0, 1);
    y.run(3);
    for (int packet = 1; packet < 200; packet++) {
      y.send(packet % 2, 1 - packet % 2);
    }
    Check.due("packets(1)", y.packets(1), 199);
    y.setLink(1, 0, 0);
    Check.due("packets(3)", y.packets(3), 199);
    Check.due("whyDropped(199, 1)", y.whyDropped(199, 1), 22);
    Check.due("whyDropped(0, 1)", y.whyDropped(0, 1), 0);
  }

  // ---- time

  private static void arrivalsBeforeTimeouts() {
    Check.part("\"of those with the same time, arrivals come before timeouts\"");
    for (int delay = 2; delay <= 8; delay += 2) {
      MeshRouting x = new MeshRouting(4);
      x.setLink(2, 3, delay);
      x.setParameter(6, delay / 2);
      // The timeout of 0, who has no link, was there first.
      x.send(0, 1);
      x.send(2, 1);
      Check.due("nextEvent()", x.nextEvent(), delay);
      Check.due("step()", x.step(), 0);
      Check.due("time()", x.time(), delay);
      Check.due("nextEvent()", x.nextEvent(), delay);
      Check.due("step()", x.step(), 4);
      Check.due("timeout(0, 1), the first", x.timeout(0, 1) > delay, true);
      Check.due("timeout(2, 1), the next", x.timeout(2, 1), delay);
      Check.due("step()", x.step(), 4);
      Check.due("time()", x.time(), delay);
      Check.due("nextEvent()", x.nextEvent() > delay, true);
    }
  }

  private static void arrivalsInTheOrderOfSending() {
    Check.part("\"arrivals in the order in which the messages were sent\"");
    for (int early = 2; early <= 9; early++) {
      MeshRouting x = new MeshRouting(10);
      // 8 sends first, over a slow link; all the others arrive at the same time.
      int[] order = {8, 4, 6, 2};
      for (int k = 0; k < order.length; k++) {
        int delay = k == 0 ? early : 1;
        x.setLink(order[k], order[k] + 1, delay);
      }
      x.send(8, 0);
      x.run(early - 1);
      for (int k = 1; k < order.length; k++) {
        x.send(order[k], 0);
      }
      for (int come = 0; come < order.length; come++) {
        Check.due("step()", x.step(), 0);
        Check.due("time()", x.time(), early);
        for (int k = 0; k < order.length; k++) {
          Check.due("isValid(" + (order[k] + 1) + ", " + order[k] + ")",
              x.isValid(order[k] + 1, order[k]), k <= come);
        }
      }
    }
  }

  private static void timeoutsByNodesAndDestinations() {
    Check.part("\"timeouts in ascending order of the nodes, and then of the destinations\"");
    MeshRouting x = new MeshRouting(5);
    int[][] pairs = {{4, 0}, {0, 4}, {4, 1}, {0, 1}, {2, 3}, {2, 1}, {0, 2}};
    for (int[] pair : pairs) {
      x.send(pair[0], pair[1]);
    }
    int[][] order = {{0, 1}, {0, 2}, {0, 4}, {2, 1}, {2, 3}, {4, 0}, {4, 1}};
    for (int come = 0; come < order.length; come++) {
      Check.due("step()", x.step(), 4);
      Check.due("time()", x.time(), 40);
      for (int k = 0; k < order.length; k++) {
        Check.due("timeout(" + order[k][0] + ", " + order[k][1] + ") after " + (come + 1),
            x.timeout(order[k][0], order[k][1]), k <= come ? 120 : 40);
      }
    }
  }
}
