/** Promises 12 to 20: what the nodes know, and what they are looking for. */
public final class TablesTest {
  interface Question {
    long of(MeshRouting x, int node, int destination);
  }

  private static final Question VALID = (x, i, d) -> x.isValid(i, d) ? 1 : 0;
  private static final Question NEXT = (x, i, d) -> x.nextNode(i, d);
  private static final Question HOPS = (x, i, d) -> x.hops(i, d);
  private static final Question SEQUENCE = (x, i, d) -> x.sequence(i, d);
  private static final Question EXPIRY = (x, i, d) -> x.expiry(i, d);
  private static final Question USERS = (x, i, d) -> x.users(i, d);
  private static final Question SEARCHING = (x, i, d) -> x.searching(i, d);
  private static final Question TIMEOUT = (x, i, d) -> x.timeout(i, d);
  private static final Question BUFFERED = (x, i, d) -> x.buffered(i, d);

  public static void main(String[] args) {
    chain();
    withoutEntries();
    wrongNodes();
    validity();
    expiredAndBrokenEntriesAnswer();
    searchingAndTimeout();
    buffered();
    Check.end("TablesTest");
  }

  /** A packet has gone from 0 to 3 over a chain, as worked out by hand, event by event. */
  private static MeshRouting chainAt49() {
    MeshRouting x = Check.mesh(4, 0, 1, 1, 2, 2, 3);
    x.send(0, 3);
    Check.due("run(49)", x.run(49), 13);
    return x;
  }

  private static void table(String name, MeshRouting x, Question question, int[][] want) {
    for (int i = 0; i < want.length; i++) {
      for (int d = 0; d < want.length; d++) {
        Check.due(name + "(" + i + ", " + d + ")", question.of(x, i, d), want[i][d]);
      }
    }
  }

  private static void chain() {
    Check.part("promises 12 to 17, a chain");
    MeshRouting x = chainAt49();
    Check.due("stateOf(0)", x.stateOf(0), 2);
    table("isValid", x, VALID, new int[][] {{0, 1, 0, 1}, {1, 0, 1, 1}, {1, 1, 0, 1}, {1, 0, 1, 0}});
    table("nextNode", x, NEXT,
        new int[][] {{-1, 1, -1, 1}, {0, -1, 2, 2}, {1, 1, -1, 3}, {2, -1, 2, -1}});
    table("hops", x, HOPS,
        new int[][] {{-1, 1, -1, 3}, {1, -1, 1, 2}, {2, 1, -1, 1}, {3, -1, 1, -1}});
    table("sequence", x, SEQUENCE,
        new int[][] {{2, -1, -2, 0}, {2, 0, -1, 0}, {2, -1, 0, 0}, {2, -2, -1, 0}});
    table("expiry", x, EXPIRY, new int[][] {{-1, 106, -1, 106}, {107, -1, 107, 107},
        {108, 108, -1, 108}, {103, -1, 109, -1}});
    table("users", x, USERS,
        new int[][] {{0, 0, 0, 0}, {0, 0, 0, 1}, {0, 0, 0, 2}, {0, 0, 0, 0}});
    table("searching", x, SEARCHING, new int[4][4]);
    table("timeout", x, TIMEOUT, new int[][] {{-1, -1, -1, -1}, {-1, -1, -1, -1}, {-1, -1, -1, -1},
        {-1, -1, -1, -1}});
    table("buffered", x, BUFFERED, new int[4][4]);
  }

  private static void withoutEntries() {
    Check.part("promises 12 to 20, no entries");
    for (int i = 0; i < 10; i++) {
      MeshRouting x = new MeshRouting(10);
      for (int d = 0; d < 10; d++) {
        String pair = "(" + i + ", " + d + ")";
        Check.due("isValid" + pair, x.isValid(i, d), false);
        Check.due("nextNode" + pair, x.nextNode(i, d), -1);
        Check.due("hops" + pair, x.hops(i, d), -1);
        Check.due("sequence" + pair, x.sequence(i, d), i == d ? 0 : -2);
        Check.due("expiry" + pair, x.expiry(i, d), -1);
        Check.due("users" + pair, x.users(i, d), 0);
        Check.due("searching" + pair, x.searching(i, d), 0);
        Check.due("timeout" + pair, x.timeout(i, d), -1);
        Check.due("buffered" + pair, x.buffered(i, d), 0);
      }
    }
  }

  private static void wrongNodes() {
    Check.part("promises 12 to 20, wrong nodes");
    Question[] all = {VALID, NEXT, HOPS, SEQUENCE, EXPIRY, USERS, SEARCHING, TIMEOUT, BUFFERED};
    MeshRouting x = chainAt49();
    for (int k = 0; k < all.length; k++) {
      Question question = all[k];
      for (int node : new int[] {-1, 4, Integer.MIN_VALUE, Integer.MAX_VALUE}) {
        Check.bounds(x, k + "(" + node + ", 0)", () -> question.of(x, node, 0));
        Check.bounds(x, k + "(0, " + node + ")", () -> question.of(x, 0, node));
        Check.bounds(x, k + "(" + node + ", " + node + ")", () -> question.of(x, node, node));
      }
    }
  }

  private static void validity() {
    Check.part("promise 12");
    MeshRouting x = chainAt49();
    x.run(56);
    Check.due("isValid(0, 3) one unit before its expiry", x.isValid(0, 3), true);
    x.run(1);
    Check.due("isValid(0, 3) at its expiry", x.isValid(0, 3), false);
    Check.due("isValid(1, 3) one unit before its expiry", x.isValid(1, 3), true);
    x.run(1);
    Check.due("isValid(1, 3) at its expiry", x.isValid(1, 3), false);
  }

  private static void expiredAndBrokenEntriesAnswer() {
    Check.part("promises 13 to 17, not valid");
    MeshRouting x = chainAt49();
    x.setLink(1, 2, 0);
    Check.due("isValid(1, 3)", x.isValid(1, 3), false);
    Check.due("nextNode(1, 3)", x.nextNode(1, 3), 2);
    Check.due("hops(1, 3)", x.hops(1, 3), 2);
    Check.due("sequence(1, 3)", x.sequence(1, 3), 1);
    Check.due("sequence(1, 2) stays unknown", x.sequence(1, 2), -1);
    Check.due("expiry(1, 3)", x.expiry(1, 3), 107);
    Check.due("users(1, 3)", x.users(1, 3), 0);
    Check.due("users(2, 3) is another way", x.users(2, 3), 2);
    x.run(1000);
    Check.due("isValid(2, 3)", x.isValid(2, 3), false);
    Check.due("nextNode(2, 3)", x.nextNode(2, 3), 3);
    Check.due("hops(2, 0)", x.hops(2, 0), 2);
    Check.due("sequence(2, 0)", x.sequence(2, 0), 3);
    Check.due("expiry(2, 3)", x.expiry(2, 3), 108);
    Check.due("users(2, 3)", x.users(2, 3), 2);
  }

  private static void searchingAndTimeout() {
    Check.part("promises 18 and 19");
    // The error of the break needs two units to 0, as the packet needs to 2.
    MeshRouting x = chainAt49();
    x.send(0, 3);
    x.setLink(2, 3, 0);
    x.run(1);
    Check.due("isValid(0, 3), which does not know yet", x.isValid(0, 3), true);
    x.run(1);
    Check.due("searching(0, 3), nothing is to be sent", x.searching(0, 3), 0);
    Check.due("searching(2, 3), the packet is held there", x.searching(2, 3), 2);
    Check.due("timeout(2, 3): a range of 1 + 2", x.timeout(2, 3), 51 + 20 * 4);
    Check.due("buffered(2, 3)", x.buffered(2, 3), 1);
    Check.due("isValid(0, 3)", x.isValid(0, 3), false);
    x.send(0, 3);
    Check.due("searching(0, 3)", x.searching(0, 3), 1);
    Check.due("timeout(0, 3): a range of 1", x.timeout(0, 3), 51 + 20 * 2);
    Check.due("searching(0, 0)", x.searching(0, 0), 0);
    Check.due("timeout(3, 3)", x.timeout(3, 3), -1);
    x.run(80);
    Check.due("searching(2, 3) after its timeout", x.searching(2, 3), 0);
    Check.due("timeout(2, 3) after its timeout", x.timeout(2, 3), -1);
  }

  private static void buffered() {
    Check.part("promise 20");
    MeshRouting x = new MeshRouting(3);
    for (int packet = 0; packet < 6; packet++) {
      Check.due("buffered(1, 2) before " + packet, x.buffered(1, 2), Math.min(packet, 4));
      x.send(1, 2);
    }
    Check.due("buffered(1, 2)", x.buffered(1, 2), 4);
    x.send(1, 0);
    Check.due("each destination has a buffer", x.buffered(1, 0), 1);
    Check.due("buffered(1, 2)", x.buffered(1, 2), 4);
    Check.due("buffered(2, 1)", x.buffered(2, 1), 0);
    x.run(10000);
    Check.due("buffered(1, 2) after the search", x.buffered(1, 2), 0);
    Check.due("buffered(1, 0) after the search", x.buffered(1, 0), 0);
  }
}
