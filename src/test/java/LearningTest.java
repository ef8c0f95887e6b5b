/** The Terms: what nodes learn, and how requests, replies, errors and breaks are handled. */
public final class LearningTest {
  public static void main(String[] args) {
    neighbourTakesThePlaceOfLongerRoute();
    unknownNumberOnlyProlongs();
    sameNumberOnlyProlongs();
    lesserNumberDoesNothing();
    greaterNumberTakesThePlace();
    fewerHopsTakeThePlace();
    moreOrOtherHopsDoNot();
    expiredRouteGivesWay();
    expiryTravelsWithTheReply();
    unknownNumberIsNotAnswered();
    knownNumberIsAnswered();
    tooSmallNumberIsNotAnswered();
    greaterNumberIsPassedOn();
    rangeEnds();
    replyNeedsTheRouteBack();
    replyEndsAfterThirtyHops();
    errorOfAnotherNodeIsIgnored();
    errorTravelsAlongTheUsers();
    breakAtBothEnds();
    breakDoesNotTellTheOtherEnd();
    breakLeavesExpiredRoutes();
    packetTeachesAndProlongs();
    thirtyLinksSuffice();
    Check.end("LearningTest");
  }

  private static void route(MeshRouting x, int node, int destination, int sequence, int hops,
      int next, int expiry) {
    String pair = "(" + node + ", " + destination + ")";
    Check.due("sequence" + pair, x.sequence(node, destination), sequence);
    Check.due("hops" + pair, x.hops(node, destination), hops);
    Check.due("nextNode" + pair, x.nextNode(node, destination), next);
    Check.due("expiry" + pair, x.expiry(node, destination), expiry);
  }

  /** 0 - 1 - 2 and two nodes without links; packet 0 went from 0 to 2 until 6. */
  private static MeshRouting threeAt6() {
    MeshRouting x = Check.mesh(5, 0, 1, 1, 2);
    x.setParameter(1, 2);
    x.send(0, 2);
    x.run(6);
    Check.due("stateOf(0)", x.stateOf(0), 2);
    route(x, 0, 2, 0, 2, 1, 64);
    route(x, 1, 2, 0, 1, 2, 65);
    return x;
  }

  private static void neighbourTakesThePlaceOfLongerRoute() {
    Check.part("learning without a number, another way");
    MeshRouting x = PacketsTest.chainAt9();
    x.setParameter(1, 2);
    route(x, 1, 3, 0, 2, 2, 67);
    x.setLink(1, 3, 1);
    x.send(2, 4);
    x.run(1);
    route(x, 1, 3, 0, 2, 2, 67);
    x.run(1);
    // 3 has passed on the request, which 1 has already: it learns the neighbour all the same.
    route(x, 1, 3, 0, 1, 3, 71);
    Check.due("users(1, 3) stay", x.users(1, 3), 1);
  }

  private static void unknownNumberOnlyProlongs() {
    Check.part("learning without a number, the same way");
    MeshRouting x = threeAt6();
    x.setParameter(0, 10);
    x.send(1, 2);
    x.run(1);
    route(x, 2, 1, -1, 1, 1, 66);
    Check.due("2 learnt it at 6 until 66, not at 7 until 17", x.time(), 7);
    x.setParameter(0, 100);
    x.send(1, 2);
    x.run(1);
    route(x, 2, 1, -1, 1, 1, 108);
    Check.part("learning without a number, the same way, the entry has one");
    MeshRouting y = Check.mesh(2, 0, 1);
    y.send(0, 1);
    y.run(1);
    route(y, 1, 0, 1, 1, 0, 61);
    y.run(2);
    route(y, 1, 0, 1, 1, 0, 63);
  }

  /** 0 and 3 ask for 4 over 1 and 2, one after the other, before 2 can answer. */
  private static void sameNumberOnlyProlongs() {
    Check.part("learning the same number by the same way");
    for (int way = 0; way < 2; way++) {
      MeshRouting x = Check.mesh(5, 0, 1, 3, 1, 1, 2, 2, 4);
      x.setParameter(1, 3);
      x.send(0, 4);
      x.run(1);
      x.send(3, 4);
      x.run(2);
      x.setParameter(0, way == 0 ? 60 : 10);
      x.run(2);
      route(x, 1, 4, 0, 2, 2, 63);
      x.run(1);
      Check.due("users(1, 4): both replies have come", x.users(1, 4), 9);
      route(x, 1, 4, 0, 2, 2, way == 0 ? 64 : 63);
    }
  }

  private static void lesserNumberDoesNothing() {
    Check.part("learning a lesser number by the same way");
    MeshRouting x = Loop.raised();
    int expiry = x.expiry(1, 3);
    route(x, 1, 3, 6, 2, 2, expiry);
    x.send(3, 9);
    x.run(2);
    route(x, 1, 3, 6, 2, 2, expiry);
    Check.due("sequence(2, 3)", x.sequence(2, 3), 6);
    Check.due("expiry(2, 3): the neighbour is learnt", x.expiry(2, 3), x.time() - 1 + 60);
    Check.due("2 passed it on", x.isValid(1, 2), true);
    Check.due("expiry(1, 2)", x.expiry(1, 2), x.time() + 60);
  }

  private static void greaterNumberTakesThePlace() {
    Check.part("learning with a greater number");
    MeshRouting x = Check.mesh(5, 0, 2, 2, 1);
    x.setLink(0, 1, 9);
    x.setParameter(1, 2);
    x.send(0, 3);
    x.run(2);
    route(x, 1, 0, 1, 2, 2, 62);
    x.run(7);
    route(x, 1, 0, 1, 1, 0, 69);
    x.send(0, 4);
    x.run(2);
    route(x, 1, 0, 2, 2, 2, 71);
  }

  /** 2 knows 4 over 3; 0 asks both 1, who does not know 4 yet but has a link to it, and 2. */
  private static MeshRouting twoWays(int slow, int near) {
    MeshRouting x = Check.mesh(5, 2, 3, 3, 4);
    x.setParameter(1, 2);
    x.send(2, 4);
    x.run(6);
    x.setLink(0, 1, 1);
    x.setLink(1, 4, near);
    x.setLink(0, 2, slow);
    x.send(0, 4);
    return x;
  }

  private static void fewerHopsTakeThePlace() {
    Check.part("learning the same number with fewer hops");
    MeshRouting x = twoWays(1, 5);
    x.run(2);
    // Of the entry of 2, which said 64; by the packet it then became 68.
    route(x, 0, 4, 0, 3, 2, 68);
    x.run(10);
    // 4 replied at 12, so its reply says 72.
    route(x, 0, 4, 0, 2, 1, 72);
  }

  private static void moreOrOtherHopsDoNot() {
    Check.part("learning the same number with more hops");
    MeshRouting x = twoWays(9, 1);
    x.run(4);
    route(x, 0, 4, 0, 2, 1, 70);
    x.run(14);
    Check.due("the other reply has come", x.nextNode(0, 2), 2);
    route(x, 0, 4, 0, 2, 1, 70);
    Check.part("learning the same number by another way");
    MeshRouting y = Check.mesh(5, 2, 4);
    y.setParameter(1, 2);
    y.send(2, 4);
    y.run(3);
    y.setLink(0, 1, 1);
    y.setLink(1, 4, 1);
    y.setLink(0, 2, 3);
    y.setParameter(0, 50);
    y.send(0, 4);
    y.run(4);
    route(y, 0, 4, 0, 2, 1, 57);
    y.run(2);
    Check.due("the other reply has come", y.nextNode(0, 2), 2);
    route(y, 0, 4, 0, 2, 1, 57);
  }

  private static void expiredRouteGivesWay() {
    Check.part("learning the same number when the route is not valid");
    MeshRouting x = Loop.made();
    Check.due("hops(2, 3) before", x.hops(2, 3), 1);
    Check.due("sequence(2, 3) before", x.sequence(2, 3), 6);
    x.run(2);
    Check.due("hops(2, 3)", x.hops(2, 3), 3);
    Check.due("sequence(2, 3)", x.sequence(2, 3), 6);
    Check.due("nextNode(2, 3)", x.nextNode(2, 3), 1);
  }

  private static void expiryTravelsWithTheReply() {
    Check.part("the expiry of a reply");
    MeshRouting x = Check.mesh(4, 0, 1, 1, 2, 2, 3);
    x.setParameter(1, 3);
    x.send(0, 3);
    x.run(5);
    route(x, 3, 0, 1, 3, 2, 63);
    route(x, 2, 3, 0, 1, 3, 63);
    route(x, 1, 3, 0, 2, 2, 63);
    Check.part("the expiry of a route that is not the destination's own");
    MeshRouting y = threeAt6();
    y.setLink(1, 3, 1);
    y.run(20);
    y.setParameter(0, 5);
    y.send(3, 2);
    y.run(2);
    route(y, 3, 2, 0, 2, 1, 65);
  }

  private static void unknownNumberIsNotAnswered() {
    Check.part("a request for what is known without a number");
    MeshRouting x = Check.mesh(4, 0, 1, 1, 2);
    x.setParameter(1, 2);
    x.send(2, 3);
    x.run(2);
    // 0 knows 1 only as a neighbour, for it was 1 who passed on what 2 asked.
    route(x, 0, 1, -1, 1, 1, 62);
    x.setLink(0, 3, 1);
    x.setParameter(1, 1);
    x.send(3, 1);
    x.run(5);
    Check.due("isValid(0, 1)", x.isValid(0, 1), true);
    Check.due("sent(1)", x.sent(1), 0);
    x.send(3, 2);
    x.run(5);
    Check.due("sent(1): the number of 2 is known", x.sent(1), 1);
  }

  private static void knownNumberIsAnswered() {
    Check.part("a request that is answered on the way");
    MeshRouting x = threeAt6();
    x.setLink(1, 3, 1);
    x.setParameter(1, 3);
    int replies = x.sent(1);
    x.send(3, 2);
    x.run(1);
    Check.due("sent(1)", x.sent(1), replies + 1);
    Check.due("sent(0): it is not passed on", x.inFlight(0), 0);
    Check.due("users(1, 2): 0 and now 3", x.users(1, 2), 9);
    Check.due("users(1, 3): the next node to 2", x.users(1, 3), 4);
    x.run(3);
    Check.due("stateOf(1)", x.stateOf(1), 2);
    route(x, 3, 2, 0, 2, 1, 68);
    Check.due("sequence(2, 2)", x.sequence(2, 2), 0);
  }

  private static void tooSmallNumberIsNotAnswered() {
    Check.part("a request for a newer number");
    MeshRouting x = threeAt6();
    x.setLink(0, 1, 0);
    route(x, 0, 2, 1, 2, 1, 64);
    x.setLink(0, 1, 1);
    x.send(0, 2);
    x.run(1);
    Check.due("isValid(1, 2)", x.isValid(1, 2), true);
    Check.due("inFlight(1)", x.inFlight(1), 0);
    Check.due("inFlight(0): it is passed on", x.inFlight(0), 2);
    Check.due("sequence(2, 2) before", x.sequence(2, 2), 0);
    x.run(3);
    Check.due("sequence(2, 2) becomes what was asked for", x.sequence(2, 2), 1);
    route(x, 0, 2, 1, 2, 1, 70);
    Check.part("a request for just that number");
    x.setLink(0, 1, 0);
    x.send(2, 4);
    x.run(2);
    x.setLink(0, 1, 1);
    x.send(0, 2);
    x.run(1);
    Check.due("sequence(0, 2)", x.sequence(0, 2), 2);
    Check.due("sequence(1, 2)", x.sequence(1, 2), 2);
    Check.due("it is answered", x.inFlight(1), 1);
  }

  private static void greaterNumberIsPassedOn() {
    Check.part("the number in a request that is passed on");
    MeshRouting x = threeAt6();
    x.setLink(1, 2, 0);
    x.setLink(1, 2, 1);
    x.setLink(1, 3, 1);
    Check.due("sequence(1, 2)", x.sequence(1, 2), 1);
    Check.due("sequence(3, 2): no entry", x.sequence(3, 2), -2);
    x.send(3, 2);
    x.run(2);
    Check.due("sequence(2, 2)", x.sequence(2, 2), 1);
    Check.part("the number that the request has already");
    MeshRouting y = threeAt6();
    y.setLink(0, 1, 0);
    y.setLink(0, 3, 1);
    y.setLink(3, 2, 1);
    y.send(0, 2);
    y.run(2);
    Check.due("sequence(3, 2): no entry on the way", y.sequence(3, 2), -2);
    Check.due("sequence(2, 2)", y.sequence(2, 2), 1);
    Check.part("a greater number of its own stays");
    y.send(2, 4);
    y.run(1);
    Check.due("sequence(2, 2)", y.sequence(2, 2), 2);
  }

  private static void rangeEnds() {
    Check.part("ranges");
    for (int range = 1; range <= 4; range++) {
      MeshRouting x = Check.mesh(6, 0, 1, 1, 2, 2, 3, 3, 4);
      x.setParameter(1, range);
      x.send(0, 5);
      x.run(20);
      for (int node = 1; node < 5; node++) {
        Check.due("hops(" + node + ", 0) for range " + range, x.hops(node, 0),
            node <= range ? node : -1);
      }
      // The origin sends 1, each of the others that pass it on 2.
      Check.due("sent(0) for range " + range, x.sent(0), 1 + 2 * (range - 1));
    }
  }

  private static void replyNeedsTheRouteBack() {
    Check.part("a reply without a route back");
    MeshRouting x = new MeshRouting(3);
    x.setLink(0, 1, 1);
    x.setLink(1, 2, 9);
    x.setParameter(0, 19);
    x.setParameter(1, 2);
    x.send(0, 2);
    x.run(19);
    Check.due("isValid(1, 0), whose expiry was 1 + 19", x.isValid(1, 0), true);
    Check.due("sent(1), passed on at 19", x.sent(1), 2);
    MeshRouting y = new MeshRouting(3);
    y.setLink(0, 1, 1);
    y.setLink(1, 2, 9);
    y.setParameter(0, 18);
    y.setParameter(1, 2);
    y.send(0, 2);
    y.run(19);
    Check.due("isValid(1, 0), whose expiry was 19", y.isValid(1, 0), false);
    Check.due("sent(1)", y.sent(1), 1);
    Check.due("users(1, 2)", y.users(1, 2), 0);
    Check.due("isValid(1, 2): the reply is learnt all the same", y.isValid(1, 2), true);
  }

  private static void replyEndsAfterThirtyHops() {
    Check.part("a reply in a loop");
    MeshRouting x = Loop.made();
    x.run(100);
    Check.due("stateOf(" + Loop.PACKET + ")", x.stateOf(Loop.PACKET), 3);
    Check.due("loops()", x.loops(), 2);
    x.setLink(0, 1, 1);
    x.setLink(0, 3, 1);
    x.setLink(2, 4, 1);
    x.setParameter(1, 4);
    x.setParameter(6, 50);
    int replies = x.sent(1);
    x.send(3, 4);
    x.run(4);
    Check.due("sequence(1, 3) is greater than that of 3", x.sequence(1, 3), 6);
    Check.due("sequence(3, 3)", x.sequence(3, 3), 1);
    Check.due("sent(1): 4 replies", x.sent(1), replies + 1);
    x.run(29);
    Check.due("sent(1) before the last two", x.sent(1), replies + 30);
    Check.due("inFlight(1)", x.inFlight(1), 1);
    x.run(1);
    Check.due("sent(1) with 30 hops", x.sent(1), replies + 31);
    x.run(10);
    Check.due("sent(1) at the end", x.sent(1), replies + 31);
    Check.due("inFlight(1)", x.inFlight(1), 0);
    Check.due("hops(1, 4)", x.hops(1, 4), 2);
    Check.due("users(1, 4)", x.users(1, 4), 4);
    Check.due("users(2, 4)", x.users(2, 4), 2);
    Check.due("stateOf(" + (Loop.PACKET + 1) + ")", x.stateOf(Loop.PACKET + 1), 0);
  }

  private static void errorOfAnotherNodeIsIgnored() {
    Check.part("an error of a node that is not the next one");
    MeshRouting x = PacketsTest.chainAt9();
    x.setLink(1, 3, 1);
    x.setParameter(1, 2);
    x.send(2, 4);
    x.run(2);
    Check.due("nextNode(1, 3) is 3 itself now", x.nextNode(1, 3), 3);
    Check.due("users(2, 3)", x.users(2, 3), 2);
    x.setLink(2, 3, 0);
    x.run(1);
    Check.due("the error has come", x.inFlight(2), 0);
    Check.due("isValid(1, 3)", x.isValid(1, 3), true);
    Check.due("sequence(1, 3)", x.sequence(1, 3), 0);
    Check.due("users(1, 3)", x.users(1, 3), 1);
    Check.due("an error teaches nothing", x.expiry(1, 2), 70);
  }

  private static void errorTravelsAlongTheUsers() {
    Check.part("an error along the users");
    MeshRouting x = PacketsTest.chainAt9();
    x.setLink(1, 4, 1);
    x.send(4, 3);
    x.run(5);
    Check.due("users(1, 3)", x.users(1, 3), 17);
    x.setLink(2, 3, 0);
    Check.due("sent(2) at once", x.sent(2), 1);
    route(x, 2, 3, 1, 1, 3, 73);
    Check.due("users(2, 3)", x.users(2, 3), 0);
    x.run(1);
    Check.due("isValid(1, 3)", x.isValid(1, 3), false);
    route(x, 1, 3, 1, 2, 2, 72);
    Check.due("users(1, 3)", x.users(1, 3), 0);
    Check.due("sent(2): to 0 and 4", x.sent(2), 3);
    Check.due("step()", x.step(), 2);
    Check.due("isValid(0, 3): 0 is told first", x.isValid(0, 3), false);
    Check.due("isValid(4, 3)", x.isValid(4, 3), true);
    Check.due("step()", x.step(), 2);
    Check.due("isValid(4, 3)", x.isValid(4, 3), false);
    Check.due("sequence(4, 3)", x.sequence(4, 3), 1);
    Check.part("users to which the link is down");
    MeshRouting y = PacketsTest.chainAt9();
    y.setLink(0, 1, 0);
    y.setLink(2, 3, 0);
    y.run(1);
    Check.due("isValid(1, 3)", y.isValid(1, 3), false);
    Check.due("users(1, 3)", y.users(1, 3), 0);
    Check.due("sent(2): only by 2 to 1", y.sent(2), 1);
    Check.part("an error whose number is less");
    MeshRouting z = PacketsTest.chainAt9();
    z.setLink(0, 1, 0);
    Check.due("sequence(0, 3)", z.sequence(0, 3), 1);
    z.setLink(0, 1, 1);
    z.send(1, 4);
    z.run(1);
    Check.due("sequence(0, 3) after the break", z.sequence(0, 3), 1);
    Check.due("isValid(0, 1)", z.isValid(0, 1), true);
    Check.due("isValid(0, 3)", z.isValid(0, 3), false);
  }

  private static void breakAtBothEnds() {
    Check.part("a break");
    for (int way = 0; way < 2; way++) {
      MeshRouting x = PacketsTest.chainAt9();
      x.send(3, 0);
      x.run(9);
      Check.due("stateOf(1)", x.stateOf(1), 2);
      Check.due("users(2, 0): none, for the route came with the request", x.users(2, 0), 0);
      x.setLink(3, 4, 1);
      x.send(4, 0);
      x.run(9);
      Check.due("users(2, 0)", x.users(2, 0), 0);
      Check.due("users(3, 0)", x.users(3, 0), 16);
      x.setLink(2 + way, 3 - way, 0);
      Check.due("isValid(2, 3)", x.isValid(2, 3), false);
      Check.due("isValid(3, 2)", x.isValid(3, 2), false);
      Check.due("isValid(3, 0)", x.isValid(3, 0), false);
      Check.due("isValid(2, 0)", x.isValid(2, 0), true);
      Check.due("sequence(3, 0)", x.sequence(3, 0), 2);
      Check.due("sequence(3, 2) is not known", x.sequence(3, 2), -1);
      Check.due("inFlight(2)", x.inFlight(2), 2);
      Check.due("step()", x.step(), 2);
      Check.due("isValid(1, 3): the smaller node is first", x.isValid(1, 3), false);
      Check.due("isValid(4, 0)", x.isValid(4, 0), true);
      Check.due("step()", x.step(), 2);
      Check.due("isValid(4, 0)", x.isValid(4, 0), false);
    }
  }

  private static void breakDoesNotTellTheOtherEnd() {
    Check.part("a break, the users");
    MeshRouting x = PacketsTest.chainAt9();
    x.setLink(1, 4, 1);
    x.send(4, 3);
    x.run(5);
    Check.due("users(1, 4): the next node to 3", x.users(1, 4), 4);
    Check.due("users(1, 3)", x.users(1, 3), 17);
    x.setLink(0, 1, 0);
    Check.due("no errors, for no valid route of 1 leads there but that to 0", x.inFlight(2), 0);
    Check.due("users(1, 3) stay", x.users(1, 3), 17);
    x.setLink(1, 2, 0);
    Check.due("errors for 3, but not to 0, nor to 2 for 4", x.inFlight(2), 1);
    Check.due("users(1, 3)", x.users(1, 3), 0);
    Check.due("users(1, 4) stay", x.users(1, 4), 4);
  }

  private static void breakLeavesExpiredRoutes() {
    Check.part("a break, routes that are not valid");
    MeshRouting x = PacketsTest.chainAt9();
    x.run(57);
    Check.due("isValid(0, 3)", x.isValid(0, 3), false);
    Check.due("isValid(1, 3)", x.isValid(1, 3), true);
    x.setLink(0, 1, 0);
    Check.due("sequence(0, 3)", x.sequence(0, 3), 0);
    x.setLink(1, 2, 0);
    Check.due("sequence(1, 3)", x.sequence(1, 3), 1);
  }

  private static void packetTeachesAndProlongs() {
    Check.part("what a packet prolongs");
    MeshRouting x = PacketsTest.chainAt9();
    x.run(10);
    x.send(0, 3);
    Check.due("expiry(0, 3)", x.expiry(0, 3), 79);
    Check.due("expiry(0, 1)", x.expiry(0, 1), 79);
    x.run(1);
    Check.due("expiry(1, 3)", x.expiry(1, 3), 80);
    Check.due("expiry(1, 2), the next node", x.expiry(1, 2), 80);
    Check.due("expiry(1, 0), the origin", x.expiry(1, 0), 80);
    x.run(1);
    Check.due("expiry(2, 1), learnt from the packet", x.expiry(2, 1), 81);
    Check.due("expiry(2, 0), the origin", x.expiry(2, 0), 81);
    x.run(1);
    Check.due("expiry(3, 2), learnt from the packet", x.expiry(3, 2), 82);
    Check.due("expiry(3, 0) at the destination", x.expiry(3, 0), 63);
    Check.part("what a packet does not shorten");
    x.setParameter(0, 1);
    x.send(1, 3);
    x.run(1);
    Check.due("expiry(1, 3)", x.expiry(1, 3), 80);
    Check.due("expiry(1, 2)", x.expiry(1, 2), 80);
    Check.part("what is not valid is not prolonged");
    MeshRouting y = PacketsTest.chainAt9();
    y.run(20);
    y.send(1, 3);
    y.run(42);
    Check.due("isValid(2, 0) is over", y.isValid(2, 0), false);
    Check.due("isValid(1, 3) goes on", y.isValid(1, 3), true);
    Check.due("isValid(0, 3) is over", y.isValid(0, 3), false);
    int before = y.expiry(1, 0);
    y.send(1, 3);
    Check.due("expiry(1, 0), not the origin", y.expiry(1, 0), before);
  }

  private static void thirtyLinksSuffice() {
    Check.part("a packet that arrives over its 30th link");
    MeshRouting x = Loop.made();
    x.run(2);
    int packet = x.send(1, 3);
    x.setLink(2, 3, 1);
    x.run(27);
    Check.due("hopsOf()", x.hopsOf(packet), 28);
    x.setParameter(1, 1);
    x.send(3, 9);
    x.run(2);
    Check.due("hopsOf()", x.hopsOf(packet), 30);
    Check.due("nodeOf()", x.nodeOf(packet), 3);
    x.run(1);
    Check.due("stateOf()", x.stateOf(packet), 2);
    Check.due("whyDropped()", x.whyDropped(packet, 1), 0);
  }
}
