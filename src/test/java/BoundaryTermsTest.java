/**
 * The sentences of the document's Terms that name a boundary, in its order, each with a test of its
 * own: links, validity, learning, and how packets are carried. Each part bears the sentence.
 */
public final class BoundaryTermsTest {
  public static void main(String[] args) {
    delaysFromOneToNine();
    delayOfThatMoment();
    linkGoesDown();
    broadcastAscends();
    broadcastWithoutLinks();
    laterThanThePresentTime();
    setAndExpiryLater();
    requestsThatItHasMade();
    requestsThatItHasHandled();
    pairsOfOriginAndNumber();
    learningOfItself();
    learningWithoutAnEntry();
    unknownNumberTheSameWay();
    unknownNumberAnotherWay();
    unknownNumberNotValid();
    numberLessThan();
    numberNotKnownIsLess();
    numberEqualAndNotValid();
    numberEqualTheSameWay();
    numberGreaterAndNotValid();
    presentTimePlusLifetime();
    prolongedDestination();
    prolongedNextNode();
    prolongedOrigin();
    putIntoBufferOfOrigin();
    repairGreaterThanZero();
    hopsAtMostRepair();
    bufferOfFourAtTheOrigin();
    bufferOfFourOnTheWay();
    Check.end("BoundaryTermsTest");
  }

  private static void route(MeshRouting x, int node, int destination, int sequence, int hops,
      int next, int expiry) {
    String pair = "(" + node + ", " + destination + ")";
    Check.due("sequence" + pair, x.sequence(node, destination), sequence);
    Check.due("hops" + pair, x.hops(node, destination), hops);
    Check.due("nextNode" + pair, x.nextNode(node, destination), next);
    Check.due("expiry" + pair, x.expiry(node, destination), expiry);
  }

  /** 0 - 1 - 2, over which packet 0 went from 0 to 2 until 6, so that 0 is a user at 1. */
  private static MeshRouting threeAt6() {
    MeshRouting x = Check.mesh(5, 0, 1, 1, 2);
    x.setParameter(1, 2);
    x.send(0, 2);
    x.run(6);
    Check.due("stateOf(0)", x.stateOf(0), 2);
    route(x, 0, 2, 0, 2, 1, 64);
    route(x, 1, 2, 0, 1, 2, 65);
    return x;
  }

  // ---- nodes and links

  private static void delaysFromOneToNine() {
    Check.part("\"arrives at time t plus the delay\", for each delay and last digit of t");
    for (int delay = 1; delay <= 9; delay++) {
      for (int start = 0; start <= 10; start++) {
        MeshRouting x = new MeshRouting(2);
        x.setLink(0, 1, delay);
        x.run(start);
        x.send(0, 1);
        Check.due("nextEvent()", x.nextEvent(), start + delay);
        Check.due("run(" + (delay - 1) + ")", x.run(delay - 1), 0);
        Check.due("isValid(1, 0) before", x.isValid(1, 0), false);
        Check.due("run(1)", x.run(1), 1);
        Check.due("isValid(1, 0)", x.isValid(1, 0), true);
      }
    }
  }

  private static void delayOfThatMoment() {
    Check.part("\"the delay of the link at that moment\"");
    int[][] changes = {{1, 9}, {9, 1}, {5, 5}};
    for (int[] change : changes) {
      MeshRouting x = new MeshRouting(3);
      x.setLink(0, 1, change[0]);
      x.send(0, 2);
      x.setLink(0, 1, change[1]);
      x.send(1, 2);
      Check.due("run() up to the first", x.run(Math.min(change[0], change[1]) - 1), 0);
      Check.due("the first", x.run(1), change[0] == change[1] ? 2 : 1);
      Check.due("isValid(1, 0)", x.isValid(1, 0), change[0] <= change[1]);
      Check.due("isValid(0, 1)", x.isValid(0, 1), change[1] <= change[0]);
    }
  }

  private static void linkGoesDown() {
    Check.part("\"all messages on it are lost\", each kind, both ways");
    for (int kind = 0; kind < 4; kind++) {
      for (int way = 0; way < 2; way++) {
        MeshRouting x = withMessage(kind, way);
        Check.due("inFlight(" + kind + ")", x.inFlight(kind), 1);
        int sent = x.sent(kind);
        x.setLink(3, 4, 0);
        Check.due("another link goes down: inFlight(" + kind + ")", x.inFlight(kind), 1);
        x.setLink(way, 1 - way, 0);
        Check.due("inFlight(" + kind + ") when it is lost", x.inFlight(kind), 0);
        Check.due("sent(" + kind + ")", x.sent(kind), sent);
        x.setLink(0, 1, 1);
        Check.due("run(9): nothing arrives", x.run(9), 0);
      }
    }
  }

  /** One message of a kind is on the link of 0 and 1; way 0 from 0, way 1 from 1. */
  private static MeshRouting withMessage(int kind, int way) {
    int other = 1 - way;
    MeshRouting x = Check.mesh(5, way, other, other, 2, 3, 4);
    if (kind == 2) {
      // For an error from way to other, way must be the middle one.
      x = Check.mesh(5, 0, 1, way, 2, 3, 4);
      x.setParameter(1, 2);
      x.send(other, 2);
      x.run(6);
      x.setLink(way, 2, 0);
    } else if (kind == 0) {
      x.send(way, 4);
    } else {
      int origin = kind == 1 ? other : way;
      x.setLink(1, 2, 0);
      x.setLink(0, 2, 0);
      x.send(origin, 1 - origin);
      for (int k = 0; k < (kind == 1 ? 1 : 2); k++) {
        x.step();
      }
    }
    return x;
  }

  private static void broadcastAscends() {
    Check.part("\"in ascending order of the other nodes\"");
    MeshRouting x = Check.mesh(6, 2, 4, 2, 0, 3, 2, 2, 1);
    x.send(2, 5);
    Check.due("sent(0)", x.sent(0), 4);
    int[] others = {0, 1, 3, 4};
    for (int arrived = 0; arrived <= others.length; arrived++) {
      for (int k = 0; k < others.length; k++) {
        Check.due("isValid(" + others[k] + ", 2) after " + arrived, x.isValid(others[k], 2),
            k < arrived);
      }
      if (arrived < others.length) {
        Check.due("step()", x.step(), 0);
      }
    }
  }

  private static void broadcastWithoutLinks() {
    Check.part("\"over all links of a node that are up\": none");
    MeshRouting x = Check.mesh(4, 0, 1);
    x.send(2, 3);
    Check.due("sent(0)", x.sent(0), 0);
    Check.due("searching(2, 3)", x.searching(2, 3), 1);
    Check.due("nextEvent()", x.nextEvent(), 40);
    x.setLink(0, 1, 0);
    x.send(0, 1);
    Check.due("sent(0) of one whose only link is down", x.sent(0), 0);
  }

  // ---- tables

  private static void laterThanThePresentTime() {
    Check.part("\"its expiry is later than the present time\"");
    MeshRouting x = Check.mesh(3, 0, 1);
    x.setParameter(0, 7);
    x.send(0, 2);
    x.run(1);
    Check.due("expiry(1, 0)", x.expiry(1, 0), 8);
    Check.due("isValid(1, 0) at 1", x.isValid(1, 0), true);
    x.run(6);
    Check.due("isValid(1, 0) at 7", x.isValid(1, 0), true);
    x.run(1);
    Check.due("isValid(1, 0) at 8", x.isValid(1, 0), false);
    Check.due("expiry(1, 0)", x.expiry(1, 0), 8);
  }

  private static void setAndExpiryLater() {
    Check.part("\"there is an entry, it is set\": an entry that is not set, whose expiry is later");
    MeshRouting x = threeAt6();
    x.setLink(0, 1, 0);
    Check.due("expiry(0, 2)", x.expiry(0, 2), 64);
    Check.due("isValid(0, 2)", x.isValid(0, 2), false);
    Check.due("isValid(0, 3), no entry", x.isValid(0, 3), false);
  }

  private static void requestsThatItHasMade() {
    Check.part("\"that it has made\": its own request comes back");
    MeshRouting x = Check.mesh(3, 0, 1);
    x.setParameter(1, 3);
    x.send(0, 2);
    x.run(2);
    Check.due("0 learns its neighbour", x.isValid(0, 1), true);
    Check.due("hops(0, 0)", x.hops(0, 0), -1);
    x.run(10);
    Check.due("sent(0): 0 has not passed it on", x.sent(0), 2);
  }

  private static void requestsThatItHasHandled() {
    Check.part("\"or handled\": a request comes by two ways");
    MeshRouting x = Check.mesh(5, 0, 1, 0, 2, 1, 3, 2, 3);
    x.setParameter(1, 3);
    x.send(0, 4);
    x.run(2);
    route(x, 3, 0, 1, 2, 1, 62);
    Check.due("the second one teaches the neighbour", x.isValid(3, 2), true);
    // 0 sent 2, and each of the others 2.
    Check.due("sent(0)", x.sent(0), 8);
    x.run(10);
    Check.due("sent(0) at the end", x.sent(0), 8);
    x.run(80 - 12);
    Check.due("sent(0): the next number is handled anew", x.sent(0), 10);
    x.run(2);
    Check.due("sequence(3, 0)", x.sequence(3, 0), 2);
  }

  private static void pairsOfOriginAndNumber() {
    Check.part("\"pairs (origin, request number)\": the same number of two origins");
    MeshRouting x = Check.mesh(4, 0, 2, 1, 2);
    x.send(0, 3);
    x.send(1, 3);
    x.run(1);
    Check.due("sequence(2, 0)", x.sequence(2, 0), 1);
    Check.due("sequence(2, 1)", x.sequence(2, 1), 1);
  }

  /** A reply of 2 goes back to 2 and round in the loop of 1 and 2. */
  private static void learningOfItself() {
    Check.part("\"if d is i, nothing\", and no user of an entry that is not there");
    MeshRouting x = Loop.made();
    x.run(100);
    x.setLink(0, 1, 1);
    x.setLink(0, 3, 1);
    x.setParameter(1, 4);
    x.send(3, 2);
    x.run(20);
    // The break makes the number of 2 at 3 greater than what 1 knows, so that 2 must answer itself.
    x.setLink(0, 3, 0);
    x.setLink(0, 3, 1);
    int replies = x.sent(1);
    x.send(3, 2);
    x.run(3);
    Check.due("the reply of 2", x.sent(1), replies + 1);
    int own = x.sequence(2, 2);
    x.run(2);
    Check.due("it has come back to 2, who passed it on", x.sent(1), replies + 3);
    route(x, 2, 2, own, -1, -1, -1);
    Check.due("isValid(2, 2)", x.isValid(2, 2), false);
    Check.due("users(2, 2)", x.users(2, 2), 0);
    x.run(40);
    Check.due("it ends at 30 hops", x.sent(1), replies + 31);
    route(x, 2, 2, own, -1, -1, -1);
    Check.due("users(2, 2)", x.users(2, 2), 0);
  }

  private static void learningWithoutAnEntry() {
    Check.part("\"if there is no entry for d, there is one then\"");
    MeshRouting x = Check.mesh(4, 0, 1, 1, 2);
    x.setParameter(1, 2);
    x.send(0, 3);
    Check.due("sequence(1, 0) before", x.sequence(1, 0), -2);
    x.run(1);
    route(x, 1, 0, 1, 1, 0, 61);
    x.run(1);
    route(x, 2, 1, -1, 1, 1, 62);
    route(x, 2, 0, 1, 2, 1, 62);
    for (int destination = 0; destination < 2; destination++) {
      Check.due("isValid(2, " + destination + ")", x.isValid(2, destination), true);
      Check.due("users(2, " + destination + ")", x.users(2, destination), 0);
    }
  }

  private static void unknownNumberTheSameWay() {
    Check.part("s is -1, valid with h hops and the next node j: \"the greater one of both\"");
    for (int lifetime : new int[] {1, 58, 59, 60, 1000}) {
      MeshRouting x = threeAt6();
      route(x, 2, 1, -1, 1, 1, 66);
      x.setParameter(0, lifetime);
      x.send(1, 2);
      x.run(1);
      route(x, 2, 1, -1, 1, 1, Math.max(66, 7 + lifetime));
    }
  }

  private static void unknownNumberAnotherWay() {
    Check.part("s is -1, other hops: \"hops, next node and expiry become h, j and e\"");
    MeshRouting x = PacketsTest.chainAt9();
    route(x, 1, 3, 0, 2, 2, 67);
    x.setParameter(0, 1);
    x.setParameter(1, 2);
    x.setLink(1, 3, 1);
    x.send(2, 4);
    x.run(2);
    // The expiry is sooner than before.
    route(x, 1, 3, 0, 1, 3, 12);
    Check.due("isValid(1, 3)", x.isValid(1, 3), true);
    Check.due("\"the users stay\"", x.users(1, 3), 1);
  }

  private static void unknownNumberNotValid() {
    Check.part("s is -1, not valid: \"if not, .. become\", and the entry is set");
    MeshRouting x = threeAt6();
    route(x, 0, 1, -1, 1, 1, 64);
    x.setLink(0, 1, 0);
    x.setLink(0, 1, 1);
    x.setParameter(0, 10);
    x.send(2, 3);
    x.run(1);
    Check.due("isValid(0, 1) before", x.isValid(0, 1), false);
    x.run(1);
    route(x, 0, 1, -1, 1, 1, 18);
    Check.due("isValid(0, 1)", x.isValid(0, 1), true);
  }

  private static void numberLessThan() {
    Check.part("\"the entry's sequence number is less than s\": by 1, with more hops, sooner expiry");
    MeshRouting x = Check.mesh(4, 0, 2, 2, 1);
    x.setLink(0, 1, 9);
    x.setParameter(1, 2);
    x.send(0, 3);
    x.run(9);
    route(x, 1, 0, 1, 1, 0, 69);
    x.setParameter(0, 10);
    x.setLink(0, 1, 0);
    x.setLink(0, 1, 9);
    route(x, 1, 0, 2, 1, 0, 69);
    x.send(0, 1);
    Check.due("sequence(0, 0)", x.sequence(0, 0), 2);
    x.run(2);
    // Not valid, and equal numbers: it is learnt as well.
    route(x, 1, 0, 2, 2, 2, 21);
    MeshRouting y = Check.mesh(4, 0, 2, 2, 1);
    y.setLink(0, 1, 9);
    y.setParameter(1, 2);
    y.send(0, 3);
    y.run(9);
    y.setParameter(0, 10);
    y.send(0, 1);
    y.run(2);
    route(y, 1, 0, 2, 2, 2, 21);
  }

  private static void numberNotKnownIsLess() {
    Check.part("\"less than s\": -1 is less than 0");
    MeshRouting x = Check.mesh(3, 0, 1, 1, 2);
    x.setParameter(1, 2);
    x.send(0, 2);
    x.run(3);
    // 1 learns 2 as a neighbour, until 63, and then by the reply that 2 sent at 2.
    route(x, 1, 2, 0, 1, 2, 62);
  }

  /** 0 hears of 4 by 1 at 10, and with more hops by 2 at 24. */
  private static MeshRouting twoReplies(int lifetime) {
    MeshRouting x = Check.mesh(5, 2, 3, 3, 4);
    x.setParameter(1, 2);
    x.send(2, 4);
    x.run(6);
    x.setLink(0, 1, 1);
    x.setLink(1, 4, 1);
    x.setLink(0, 2, 9);
    x.setParameter(0, lifetime);
    x.send(0, 4);
    x.run(4);
    route(x, 0, 4, 0, 2, 1, 10 + lifetime);
    Check.due("run(13)", x.run(13) > 0, true);
    route(x, 0, 4, 0, 2, 1, 10 + lifetime);
    x.run(1);
    return x;
  }

  private static void numberEqualAndNotValid() {
    Check.part("\"equal to s and the route is not valid\": the expiry is the present time");
    MeshRouting x = twoReplies(14);
    route(x, 0, 4, 0, 3, 2, 64);
    Check.part("\"equal to s\", more hops, and valid for one unit more");
    MeshRouting y = twoReplies(15);
    route(y, 0, 4, 0, 2, 1, 25);
  }

  /** 0 and 3 ask for 4 over 1 and 2; both replies come to 1 by the same way. */
  private static void numberEqualTheSameWay() {
    Check.part("the number s, h hops, next node j: \"the greater one of both\"");
    for (int lifetime : new int[] {10, 58, 59, 60, 1000}) {
      MeshRouting x = Check.mesh(5, 0, 1, 3, 1, 1, 2, 2, 4);
      x.setParameter(1, 3);
      x.send(0, 4);
      x.run(1);
      x.send(3, 4);
      x.run(2);
      x.setParameter(0, lifetime);
      x.run(2);
      route(x, 1, 4, 0, 2, 2, 63);
      x.run(1);
      Check.due("users(1, 4): both replies have come", x.users(1, 4), 9);
      route(x, 1, 4, 0, 2, 2, Math.max(63, 4 + lifetime));
    }
  }

  private static void numberGreaterAndNotValid() {
    Check.part("a number that is greater than s, in a route that is not valid: nothing");
    MeshRouting x = Loop.raised();
    x.run(100);
    int expiry = x.expiry(1, 3);
    Check.due("isValid(1, 3)", x.isValid(1, 3), false);
    route(x, 1, 3, 6, 2, 2, expiry);
    x.send(3, 9);
    x.run(2);
    Check.due("1 has heard of it, for it learnt 2", x.expiry(1, 2), x.time() + 60);
    Check.due("sequence(3, 3)", x.sequence(3, 3), 1);
    route(x, 1, 3, 6, 2, 2, expiry);
    Check.due("isValid(1, 3)", x.isValid(1, 3), false);
  }

  private static void presentTimePlusLifetime() {
    Check.part("\"F is the present time plus lifetime\": 1 and 1000");
    for (int lifetime : new int[] {1, 1000}) {
      MeshRouting x = Check.mesh(4, 0, 1, 1, 2);
      x.setParameter(0, lifetime);
      x.setParameter(1, 2);
      x.run(4);
      x.send(0, 3);
      x.run(2);
      // What 0 asks later does not come to 2 any more.
      x.setLink(0, 1, 0);
      Check.due("expiry(2, 0)", x.expiry(2, 0), 6 + lifetime);
      Check.due("isValid(2, 0)", x.isValid(2, 0), true);
      x.run(lifetime - 1);
      Check.due("isValid(2, 0) in the last unit", x.isValid(2, 0), true);
      x.run(1);
      Check.due("isValid(2, 0) at the end", x.isValid(2, 0), false);
    }
  }

  // ---- packets

  private static void prolongedDestination() {
    Check.part("\"becomes at least F\": F is less, the same, greater");
    for (int lifetime : new int[] {1, 57, 58, 59, 1000}) {
      MeshRouting x = threeAt6();
      x.setParameter(0, lifetime);
      x.send(0, 2);
      route(x, 0, 2, 0, 2, 1, Math.max(64, 6 + lifetime));
      route(x, 0, 1, -1, 1, 1, Math.max(64, 6 + lifetime));
    }
  }

  /** The route of 0 to 2 lasts until 1002, that to its next node 1 only until 14. */
  private static MeshRouting shortWayToTheNextNode() {
    MeshRouting x = Check.mesh(3, 0, 1, 1, 2);
    x.setParameter(0, 10);
    x.setParameter(1, 2);
    x.send(0, 2);
    x.step();
    x.step();
    // 0 has heard of 1 with the short lifetime; 2 answers with a long one.
    x.setParameter(0, 1000);
    x.step();
    x.setParameter(0, 10);
    x.run(4);
    Check.due("stateOf(0)", x.stateOf(0), 2);
    route(x, 0, 2, 0, 2, 1, 1002);
    route(x, 0, 1, -1, 1, 1, 14);
    return x;
  }

  private static void prolongedNextNode() {
    Check.part("\"for this next node .. as far as the routes are valid\": it expires just now");
    for (int now = 13; now <= 14; now++) {
      MeshRouting x = shortWayToTheNextNode();
      x.run(now - x.time());
      x.setParameter(0, 50);
      x.send(0, 2);
      Check.due("stateOf(1)", x.stateOf(1), 1);
      Check.due("expiry(0, 2)", x.expiry(0, 2), 1002);
      Check.due("expiry(0, 1)", x.expiry(0, 1), now == 13 ? 63 : 14);
      Check.due("isValid(0, 1)", x.isValid(0, 1), now == 13);
    }
  }

  private static void prolongedOrigin() {
    Check.part("\"for the origin .. as far as the routes are valid\": it expires just now");
    for (int late = 0; late < 2; late++) {
      MeshRouting x = PacketsTest.chainAt9();
      x.setParameter(0, 1000);
      x.send(0, 3);
      x.setParameter(0, 60);
      x.run(3);
      Check.due("expiry(2, 0)", x.expiry(2, 0), 71);
      x.setParameter(0, 1000);
      x.send(1, 3);
      x.run(56 + late);
      x.send(0, 3);
      x.run(2);
      Check.due("time()", x.time(), 70 + late);
      Check.due("the packet is sent on", x.hopsOf(3), 3);
      Check.due("expiry(2, 0)", x.expiry(2, 0), late == 0 ? 1070 : 71);
      Check.due("isValid(2, 0)", x.isValid(2, 0), late == 0);
    }
  }

  private static void putIntoBufferOfOrigin() {
    Check.part("\"if the route of i to the destination is valid\": it expires just now");
    for (int now = 63; now <= 64; now++) {
      MeshRouting x = threeAt6();
      x.run(now - 6);
      x.send(0, 2);
      Check.due("stateOf(1) at " + now, x.stateOf(1), now == 63 ? 1 : 0);
      Check.due("buffered(0, 2) at " + now, x.buffered(0, 2), now - 63);
      Check.due("searching(0, 2) at " + now, x.searching(0, 2), now - 63);
    }
  }

  /** A packet from 0 comes to 2, whose way to 3, of 1 hop, is broken. */
  private static MeshRouting oneHopBroken(int repair) {
    MeshRouting x = PacketsTest.chainAt9();
    x.setParameter(7, repair);
    x.send(0, 3);
    x.run(1);
    x.setLink(2, 3, 0);
    x.run(1);
    Check.due("nodeOf(1)", x.nodeOf(1), 2);
    return x;
  }

  private static void repairGreaterThanZero() {
    Check.part("\"if repair is greater than 0\"");
    for (int repair = 0; repair <= 10; repair++) {
      MeshRouting x = oneHopBroken(repair);
      Check.due("stateOf(1) by " + repair, x.stateOf(1), repair == 0 ? 3 : 0);
      Check.due("whyDropped(1, 1) by " + repair, x.whyDropped(1, 1), repair == 0 ? 12 : 0);
      Check.due("searching(2, 3) by " + repair, x.searching(2, 3), repair == 0 ? 0 : 2);
    }
  }

  private static void hopsAtMostRepair() {
    Check.part("\"its hops are at most repair\"");
    for (int hops = 1; hops <= 8; hops++) {
      for (int repair = Math.max(1, hops - 1); repair <= hops + 1; repair++) {
        MeshRouting x = brokenBehindOne(hops, repair);
        Check.due("hops(1, " + (hops + 1) + ")", x.hops(1, hops + 1), hops);
        Check.due("searching by " + repair, x.searching(1, hops + 1), repair >= hops ? 2 : 0);
        Check.due("whyDropped(1, 1) by " + repair, x.whyDropped(1, 1), repair >= hops ? 0 : 12);
        Check.due("its range", x.timeout(1, hops + 1),
            repair >= hops ? x.time() + 20 * (hops + 2 + 1) : -1);
      }
    }
  }

  /** A chain from 0; a packet from 0 comes to 1, which is some hops from its destination. */
  private static MeshRouting brokenBehindOne(int hops, int repair) {
    MeshRouting x = new MeshRouting(10);
    for (int node = 0; node <= hops; node++) {
      x.setLink(node, node + 1, 1);
    }
    x.setParameter(1, 10);
    x.setParameter(7, repair);
    x.send(0, hops + 1);
    x.run(40);
    Check.due("stateOf(0)", x.stateOf(0), 2);
    x.send(0, hops + 1);
    x.setLink(1, 2, 0);
    x.run(1);
    return x;
  }

  private static void bufferOfFourAtTheOrigin() {
    Check.part("\"at most 4 packets; if it is full, its oldest packet is dropped\"");
    MeshRouting x = new MeshRouting(3);
    for (int sent = 1; sent <= 9; sent++) {
      x.send(0, 1);
      Check.due("buffered(0, 1) after " + sent, x.buffered(0, 1), Math.min(4, sent));
      for (int packet = 0; packet < sent; packet++) {
        boolean dropped = packet < sent - 4;
        Check.due("whyDropped(" + packet + ", 1)", x.whyDropped(packet, 1), dropped ? 21 : 0);
        Check.due("stateOf(" + packet + ")", x.stateOf(packet), dropped ? 3 : 0);
        Check.due("nodeOf(" + packet + ")", x.nodeOf(packet), 0);
      }
      Check.due("packets(3) after " + sent, x.packets(3), Math.max(0, sent - 4));
    }
    x.send(0, 2);
    Check.due("another buffer drops nothing", x.packets(3), 5);
  }

  private static void bufferOfFourOnTheWay() {
    Check.part("a buffer that is full in a repair");
    MeshRouting x = PacketsTest.chainAt9();
    for (int packet = 1; packet <= 5; packet++) {
      x.send(0, 3);
    }
    x.setLink(1, 2, 0);
    for (int come = 1; come <= 5; come++) {
      Check.due("the packet", x.step() == 2 ? x.step() : 3, 3);
      Check.due("buffered(1, 3)", x.buffered(1, 3), Math.min(4, come));
      Check.due("whyDropped(1, 1)", x.whyDropped(1, 1), come == 5 ? 21 : 0);
    }
    Check.due("nodeOf(1): where it was held", x.nodeOf(1), 1);
    Check.due("hopsOf(1)", x.hopsOf(1), 1);
    Check.due("whyDropped(2, 1)", x.whyDropped(2, 1), 0);
    Check.due("searching(1, 3)", x.searching(1, 3), 2);
  }
}
