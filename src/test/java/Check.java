/** What the tests share: they tell every answer that is not due, and end with 1 if there was one. */
final class Check {
  interface Call {
    long answer();
  }

  private static int wrong;
  private static int asked;
  private static String part = "";

  private Check() {}

  static void part(String name) {
    part = name;
  }

  static void due(String call, long got, long want) {
    asked++;
    if (got != want) {
      wrong++;
      System.out.println(part + ": " + call + " answered " + got + ", due is " + want);
    }
  }

  static void due(String call, boolean got, boolean want) {
    due(call, got ? 1 : 0, want ? 1 : 0);
  }

  static void due(String call, String got, String want) {
    asked++;
    if (!got.equals(want)) {
      wrong++;
      System.out.println(part + ": " + call + " answered " + got + ", due is " + want);
    }
  }

  /** The call must throw just this kind of exception, and the fingerprint must stay. */
  static void refuses(MeshRouting x, String call, Class<?> want, Call made) {
    asked++;
    long before = x.fingerprint();
    String got;
    try {
      got = String.valueOf(made.answer());
    } catch (RuntimeException e) {
      got = e.getClass().getSimpleName();
    }
    if (!got.equals(want.getSimpleName())) {
      wrong++;
      System.out.println(part + ": " + call + " answered " + got + ", due is " + want);
    }
    due(call + ", fingerprint afterwards", x.fingerprint(), before);
  }

  static void bounds(MeshRouting x, String call, Call made) {
    refuses(x, call, IndexOutOfBoundsException.class, made);
  }

  static void argument(MeshRouting x, String call, Call made) {
    refuses(x, call, IllegalArgumentException.class, made);
  }

  static void state(MeshRouting x, String call, Call made) {
    refuses(x, call, IllegalStateException.class, made);
  }

  /** Makes links of delay 1, given as pairs of nodes, on a new object. */
  static MeshRouting mesh(int nodes, int... pairs) {
    MeshRouting x = new MeshRouting(nodes);
    for (int k = 0; k + 1 < pairs.length; k += 2) {
      due("setLink(" + pairs[k] + ", " + pairs[k + 1] + ", 1)",
          x.setLink(pairs[k], pairs[k + 1], 1), 0);
    }
    return x;
  }

  static void end(String test) {
    System.out.println(test + ": " + asked + " answers, " + wrong + " not as due");
    if (wrong != 0) {
      System.exit(1);
    }
  }
}
