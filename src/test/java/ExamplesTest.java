/** The four examples of the document. */
public final class ExamplesTest {
  public static void main(String[] args) {
    first();
    second();
    third();
    fourth();
    Check.end("ExamplesTest");
  }

  private static void first() {
    Check.part("example 1");
    MeshRouting x = new MeshRouting(4);
    Check.due("setLink(0, 1, 1)", x.setLink(0, 1, 1), 0);
    Check.due("setLink(1, 2, 2)", x.setLink(1, 2, 2), 0);
    Check.due("setLink(2, 3, 1)", x.setLink(2, 3, 1), 0);
    Check.due("send(0, 3)", x.send(0, 3), 0);
    Check.due("timeout(0, 3)", x.timeout(0, 3), 40);
    Check.due("run(200)", x.run(200), 13);
    Check.due("stateOf(0)", x.stateOf(0), 2);
    Check.due("endOf(0)", x.endOf(0), 52);
    Check.due("hops(0, 3)", x.hops(0, 3), 3);
    Check.due("users(1, 3)", x.users(1, 3), 1);
  }

  private static void second() {
    Check.part("example 2");
    MeshRouting x = new MeshRouting(3);
    Check.due("setLink(0, 1, 3)", x.setLink(0, 1, 3), 0);
    Check.due("setParameter(6, 1)", x.setParameter(6, 1), 20);
    Check.due("send(0, 2)", x.send(0, 2), 0);
    Check.due("forecast(0, 2, 100)", x.forecast(0, 2, 100), 3);
    Check.due("run(1000)", x.run(1000), 14);
    Check.due("stateOf(0)", x.stateOf(0), 3);
    Check.due("whyDropped(0, 1)", x.whyDropped(0, 1), 11);
    Check.due("sent(0)", x.sent(0), 9);
    Check.due("endOf(0)", x.endOf(0), 34);
  }

  private static void third() {
    Check.part("example 3");
    MeshRouting x = new MeshRouting(3);
    Check.due("setLink(0, 1, 1)", x.setLink(0, 1, 1), 0);
    Check.due("setLink(1, 2, 1)", x.setLink(1, 2, 1), 0);
    Check.due("send(0, 2)", x.send(0, 2), 0);
    Check.due("run(30)", x.run(30), 1);
    Check.due("stateOf(0)", x.stateOf(0), 0);
    Check.due("setLink(1, 2, 0)", x.setLink(1, 2, 0), 1);
    Check.due("isValid(1, 2)", x.isValid(1, 2), false);
    Check.due("isValid(0, 2)", x.isValid(0, 2), false);
    Check.due("run(1)", x.run(1), 0);
    Check.due("isValid(0, 2)", x.isValid(0, 2), false);
    Check.due("sequence(0, 2)", x.sequence(0, 2), -2);
  }

  private static void fourth() {
    Check.part("example 4");
    MeshRouting x = new MeshRouting(2);
    Check.due("step()", x.step(), -1);
    Check.argument(x, "send(0, 0)", () -> x.send(0, 0));
    Check.bounds(x, "stateOf(0)", () -> x.stateOf(0));
    Check.due("follow(0, 1)", x.follow(0, 1), -1);
    Check.state(x, "restore()", () -> x.restore());
  }
}
