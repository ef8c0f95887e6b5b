/**
 * A mesh in which 1 and 2 send to each other what is for 3 (or another goal). The entries have a
 * sequence number far above that of 3 itself, so that not even a request of 3 ends the loop.
 */
final class Loop {
  /** The packet from 2 to 3 that is about to go round in the loop. */
  static final int PACKET = 9;
  /** How many errors have been sent until then: one by the first break, to user 1. */
  static final int ERRORS = 1;

  private Loop() {}

  /** The search of 2 for 3 goes on, and 1 is about to answer it. */
  static MeshRouting made() {
    return made(3);
  }

  /** The goal may be 0 or 3. */
  static MeshRouting made(int goal) {
    MeshRouting x = raised(goal);
    outliveAtOne(x, goal);
    x.send(2, goal);
    Check.due("searching(2, " + goal + ")", x.searching(2, goal), 1);
    return x;
  }

  /** 1 - 2 - 3, where 1 and 2 hold the sequence number of 3 to be 6, which is 0. */
  static MeshRouting raised() {
    return raised(3);
  }

  private static MeshRouting raised(int goal) {
    MeshRouting x = Check.mesh(10, 1, 2, 2, goal);
    x.setParameter(1, 2);
    x.send(1, goal);
    x.run(6);
    Check.due("stateOf(0)", x.stateOf(0), 2);
    raiseSequence(x, goal);
    x.send(1, goal);
    x.run(4);
    Check.due("sequence(1, " + goal + ")", x.sequence(1, goal), 6);
    return x;
  }

  /** 2 hears the goal pass on its request for a node without links; each break then adds 1. */
  private static void raiseSequence(MeshRouting x, int goal) {
    // The searches for these nodes are to end after 3 + 2 units.
    x.setParameter(3, 1);
    x.setParameter(4, 1);
    x.setParameter(5, 1);
    x.setParameter(6, 1);
    for (int lonely = 4; lonely < 10; lonely++) {
      x.setLink(2, goal, 0);
      x.setLink(2, goal, 1);
      x.send(2, lonely);
      x.run(5);
      Check.due("searching(2, " + lonely + ")", x.searching(2, lonely), 0);
      Check.due("sequence(2, " + goal + ")", x.sequence(2, goal), lonely - 3);
      Check.due("isValid(2, " + goal + ")", x.isValid(2, goal), true);
    }
    Check.due("sequence of the goal", x.sequence(goal, goal), 0);
  }

  /** Makes the entry of 1 live long, lets that of 2 expire, and takes the link to the goal down. */
  private static void outliveAtOne(MeshRouting x, int goal) {
    x.setParameter(0, 1000);
    x.send(1, goal);
    x.setParameter(0, 1);
    x.run(70);
    Check.due("stateOf(8)", x.stateOf(8), 2);
    Check.due("isValid(1, " + goal + ")", x.isValid(1, goal), true);
    Check.due("isValid(2, " + goal + ")", x.isValid(2, goal), false);
    x.setLink(2, goal, 0);
    x.setParameter(0, 1000);
  }
}
