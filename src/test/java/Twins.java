/**
 * Two objects made by the same calls. One of them then gets a call that is to change nothing; after
 * it both must answer the same, now and later.
 */
final class Twins {
  interface Call {
    long of(MeshRouting x);
  }

  /** The kinds of a pair: a new object, one with everything in it, the same with 200 packets. */
  static final int NEW = 0;
  static final int BUSY = 1;
  static final int FULL = 2;
  static final int KINDS = 3;
  static final int NODES = 4;

  private static final int STEPS = 30;

  private final String name;
  private final int packets;
  private final MeshRouting touched;
  private final MeshRouting other;

  private Twins(int kind) {
    name = kind == NEW ? ", new object" : kind == BUSY ? ", busy object" : ", full object";
    packets = packetsOf(kind);
    touched = made(kind);
    other = made(kind);
  }

  static MeshRouting made(int kind) {
    MeshRouting x = kind == NEW ? new MeshRouting(NODES) : busy();
    if (kind == FULL) {
      for (int packet = packetsOf(BUSY); packet < 200; packet++) {
        x.send(packet % 3, 3);
      }
    }
    return x;
  }

  static int packetsOf(int kind) {
    return kind == NEW ? 0 : kind == BUSY ? 11 : 200;
  }

  /** Messages of every kind on links, packets in every state, a search, a repair, a checkpoint. */
  private static MeshRouting busy() {
    MeshRouting x = Check.mesh(NODES, 0, 1, 1, 2, 2, 3);
    x.setParameter(1, 3);
    x.send(0, 3);
    x.run(9);
    x.keep();
    x.setParameter(0, 70);
    x.send(0, 3);
    x.run(1);
    // The error to 1 takes long; 2 repairs the way of the packet meanwhile.
    x.setLink(1, 2, 5);
    x.setLink(2, 3, 0);
    x.run(1);
    x.send(1, 0);
    x.setLink(0, 1, 0);
    x.setLink(0, 1, 1);
    x.setLink(0, 3, 2);
    for (int packet = 3; packet < 8; packet++) {
      x.send(3, 0);
    }
    x.run(2);
    x.send(0, 2);
    x.send(1, 3);
    x.send(2, 1);
    return x;
  }

  /** The call on one of two such objects must throw just this, and change nothing. */
  static void refuse(int kind, String call, Class<? extends RuntimeException> want, Call made) {
    answer(kind, call, want.getSimpleName(), made);
  }

  static void bounds(int kind, String call, Call made) {
    refuse(kind, call, IndexOutOfBoundsException.class, made);
  }

  static void argument(int kind, String call, Call made) {
    refuse(kind, call, IllegalArgumentException.class, made);
  }

  static void state(int kind, String call, Call made) {
    refuse(kind, call, IllegalStateException.class, made);
  }

  /** The call on one of two such objects must answer this, and change nothing. */
  static void answer(int kind, String call, String want, Call made) {
    Twins twins = new Twins(kind);
    String name = call + twins.name;
    Check.due(name, outcome(twins.touched, made), want);
    twins.compare(name + ", afterwards: ");
  }

  static String outcome(MeshRouting x, Call call) {
    try {
      return String.valueOf(call.of(x));
    } catch (RuntimeException e) {
      return e.getClass().getSimpleName();
    }
  }

  private void same(String name, Call question) {
    Check.due(name, outcome(touched, question), outcome(other, question));
  }

  private void compare(String where) {
    compareNow(where);
    for (int step = 0; step < STEPS; step++) {
      same(where + "step " + step, x -> x.step());
      same(where + "fingerprint() after it", x -> x.fingerprint());
    }
    same(where + "restore()", x -> x.restore());
    same(where + "fingerprint() after it", x -> x.fingerprint());
    same(where + "run(1000)", x -> x.run(1000));
    same(where + "fingerprint() after it", x -> x.fingerprint());
    for (int k = 0; k < 8; k++) {
      int parameter = k;
      same(where + "parameter " + k, x -> x.setParameter(parameter, 5));
    }
  }

  private void compareNow(String where) {
    same(where + "fingerprint()", x -> x.fingerprint());
    same(where + "nextEvent()", x -> x.nextEvent());
    same(where + "totalHops()", x -> x.totalHops());
    for (int k = 0; k < NODES * NODES; k++) {
      int a = k / NODES;
      int b = k % NODES;
      String pair = "(" + a + ", " + b + ")";
      same(where + "link" + pair, x -> x.link(a, b));
      same(where + "expiry" + pair, x -> x.expiry(a, b));
      same(where + "timeout" + pair, x -> x.timeout(a, b));
    }
    for (int packet : new int[] {0, 1, packets - 1, packets}) {
      same(where + "stateOf(" + packet + ")", x -> x.stateOf(packet));
      same(where + "nodeOf(" + packet + ")", x -> x.nodeOf(packet));
      same(where + "hopsOf(" + packet + ")", x -> x.hopsOf(packet));
      same(where + "endOf(" + packet + ")", x -> x.endOf(packet));
      same(where + "whyDropped(" + packet + ", 1)", x -> x.whyDropped(packet, 1));
    }
  }
}
