import java.util.Random;

/** Random runs of 512 calls in all, each answer compared with that of PlainModel. */
public final class RandomRunsTest {
  private static final int RUNS = Integer.getInteger("runs", 4000);
  private static final int CALLS = 512;
  private static final int FACE = 33;
  // The calls that change something come more often than the questions.
  private static final int[] OFTEN = {0, 0, 0, 0, 2, 3, 3, 3, 3, 3, 4, 4, 4, 4, 4, 5, 5, 5, 5};

  private static final int[] QUESTIONS = {6, 7, 8, 9, 10, 11, 12, 13, 14, 15, 16, 17, 18, 19, 20, 21,
      22, 23, 24, 25, 26, 27, 28, 29, 30};

  private static final int[] causes = new int[24];
  private static int looped;
  private static int repairs;
  private static int thrown;

  private final Random random;
  private final int nodes;
  private final int style;
  private final boolean crowded;
  private final MeshRouting x;
  private final PlainModel y;
  private int left = CALLS;

  private RandomRunsTest(int seed) {
    random = new Random(seed);
    int wanted = seed % 17 == 0 ? random.nextInt(30) - 10 : 2 + random.nextInt(9);
    nodes = Math.max(2, Math.min(10, wanted));
    style = seed % 4;
    crowded = seed % 9 == 0;
    x = new MeshRouting(wanted);
    y = new PlainModel(wanted);
  }

  private int node() {
    int odd = random.nextInt(120);
    return odd == 0 ? -1 : odd == 1 ? nodes : odd == 2 ? Integer.MIN_VALUE : random.nextInt(nodes);
  }

  private int packet() {
    return random.nextInt(Math.max(1, y.packets(0) + y.packets(1) + y.packets(2) + y.packets(3)) + 2)
        - 1;
  }

  private int units() {
    int odd = random.nextInt(60);
    return odd == 0 ? -1 : odd == 1 ? 100001 : odd == 2 ? 100000 : odd < 8 ? random.nextInt(400)
        : random.nextInt(12);
  }

  private int delay() {
    int odd = random.nextInt(40);
    if (odd < 2) {
      return odd == 0 ? -1 : 10;
    }
    return random.nextInt(style == 0 ? 3 : 10) == 0 ? 0
        : style == 1 ? 1 : style == 2 ? 1 + random.nextInt(9) : 1 + random.nextInt(3);
  }

  private int value(int parameter) {
    if (parameter < 0 || parameter > 7 || random.nextInt(20) == 0) {
      return random.nextInt(1100) - 50;
    }
    int low = PlainModel.LOW[parameter];
    int high = PlainModel.HIGH[parameter];
    return low + random.nextInt(random.nextBoolean() ? high - low + 1 : Math.min(4, high - low + 1));
  }

  /** A call by its number in the order of the document. */
  private long ask(boolean model, int call, int a, int b, int c) {
    switch (call) {
      case 0: return model ? y.setLink(a, b, c) : x.setLink(a, b, c);
      case 1: return model ? y.link(a, b) : x.link(a, b);
      case 2: return model ? y.setParameter(a, b) : x.setParameter(a, b);
      case 3: return model ? y.send(a, b) : x.send(a, b);
      case 4: return model ? y.step() : x.step();
      case 5: return model ? y.run(a) : x.run(a);
      case 6: return model ? y.time() : x.time();
      case 7: return model ? y.nextEvent() : x.nextEvent();
      case 8: return model ? y.inFlight(a) : x.inFlight(a);
      case 9: return model ? y.sent(a) : x.sent(a);
      case 10: return (model ? y.isValid(a, b) : x.isValid(a, b)) ? 1 : 0;
      case 11: return model ? y.nextNode(a, b) : x.nextNode(a, b);
      case 12: return model ? y.hops(a, b) : x.hops(a, b);
      case 13: return model ? y.sequence(a, b) : x.sequence(a, b);
      case 14: return model ? y.expiry(a, b) : x.expiry(a, b);
      case 15: return model ? y.users(a, b) : x.users(a, b);
      case 16: return model ? y.searching(a, b) : x.searching(a, b);
      case 17: return model ? y.timeout(a, b) : x.timeout(a, b);
      case 18: return model ? y.buffered(a, b) : x.buffered(a, b);
      case 19: return model ? y.stateOf(a) : x.stateOf(a);
      case 20: return model ? y.nodeOf(a) : x.nodeOf(a);
      case 21: return model ? y.hopsOf(a) : x.hopsOf(a);
      case 22: return model ? y.endOf(a) : x.endOf(a);
      case 23: return model ? y.whyDropped(a, b) : x.whyDropped(a, b);
      case 24: return model ? y.packets(a) : x.packets(a);
      case 25: return model ? y.follow(a, b) : x.follow(a, b);
      case 26: return model ? y.loops() : x.loops();
      case 27: return model ? y.distance(a, b) : x.distance(a, b);
      case 28: return model ? y.totalHops() : x.totalHops();
      case 29: return model ? y.forecast(a, b, c) : x.forecast(a, b, c);
      case 30: return model ? y.damage(a, b, c) : x.damage(a, b, c);
      case 31: return model ? y.keep() : x.keep();
      case 32: return model ? y.restore() : x.restore();
      default: return model ? y.fingerprint() : x.fingerprint();
    }
  }

  private String outcome(boolean model, int call, int a, int b, int c) {
    try {
      return String.valueOf(ask(model, call, a, b, c));
    } catch (RuntimeException e) {
      thrown += model ? 1 : 0;
      return e.getClass().getName();
    }
  }

  private void same(String where, int call, int a, int b, int c) {
    if (left == 0) {
      return;
    }
    left--;
    String want = outcome(true, call, a, b, c);
    String got = outcome(false, call, a, b, c);
    Check.due(where + " call " + call + "(" + a + ", " + b + ", " + c + ") is " + want + ", not " + got,
        got.equals(want), true);
    looped += call == 26 && !want.equals("0") ? 1 : 0;
    repairs += call == 16 && want.equals("2") ? 1 : 0;
  }

  private void randomCall(String where) {
    int call = random.nextInt(3) > 0 ? OFTEN[random.nextInt(OFTEN.length)] : random.nextInt(FACE + 1);
    if (crowded && random.nextInt(4) > 0) {
      call = 3;
    }
    if (call == 32 && random.nextInt(3) > 0 || style == 3 && call == 0 && random.nextInt(3) > 0) {
      call = 3;
    }
    int a = node();
    int b = node();
    int c = 0;
    if (call == 0) {
      c = delay();
    } else if (call == 2) {
      a = random.nextInt(10) - 1;
      b = value(a);
    } else if (call == 5) {
      a = units();
    } else if (call == 8 || call == 9 || call == 24) {
      a = random.nextInt(6) - 1;
    } else if (call >= 19 && call <= 23) {
      a = packet();
      b = random.nextInt(4) - 1;
    } else if (call == 29 || call == 30) {
      c = units();
    }
    same(where, call, a, b, c);
  }

  private void randomQuestion(String where) {
    int call = QUESTIONS[random.nextInt(QUESTIONS.length)];
    if (call == 8 || call == 9 || call == 24) {
      same(where, call, random.nextInt(4), 0, 0);
    } else if (call >= 19 && call <= 23) {
      same(where, call, packet(), random.nextInt(2), 0);
    } else {
      same(where, call, random.nextInt(nodes), random.nextInt(nodes), units());
    }
  }

  private void linkAll() {
    for (int a = 0; a < nodes; a++) {
      for (int b = a + 1; b < nodes; b++) {
        if (random.nextInt(nodes) < (style == 1 ? 3 : 2) || b == a + 1 && random.nextInt(4) > 0) {
          same("at first", 0, a, b, Math.max(1, delay()) % 10);
        }
      }
    }
  }

  /** Some runs ask little until their end, so that much can happen; others ask all the time. */
  private void go(int seed) {
    if (seed % 3 > 0) {
      linkAll();
    }
    if (style == 3) {
      same("at first", 2, 1, 3 + random.nextInt(8), 0);
    }
    int questions = seed % 5 < 2 ? CALLS : seed % 5 == 2 ? 250 : 100;
    while (left > 0) {
      String where = "seed " + seed + ", call " + (CALLS - left);
      if (left > questions || questions == CALLS && left % 2 == 0) {
        randomCall(where);
      } else if (random.nextInt(4) == 0) {
        same(where, FACE, 0, 0, 0);
      } else {
        randomQuestion(where);
      }
    }
    count();
  }

  private void count() {
    int all = y.packets(0) + y.packets(1) + y.packets(2) + y.packets(3);
    for (int packet = 0; packet < all; packet++) {
      causes[y.whyDropped(packet, 1)]++;
    }
  }

  public static void main(String[] args) {
    for (int seed = 0; seed < RUNS; seed++) {
      new RandomRunsTest(seed).go(seed);
    }
    StringBuilder seen = new StringBuilder();
    for (int cause : new int[] {0, 11, 12, 13, 21, 22, 23}) {
      seen.append(" ").append(cause).append(":").append(causes[cause]);
    }
    System.out.println("causes" + seen + " loops:" + looped + " repairs:" + repairs + " thrown:"
        + thrown);
    Check.end("RandomRunsTest");
  }
}
