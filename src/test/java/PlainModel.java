import java.util.ArrayList;
import java.util.HashSet;
import java.util.List;
import java.util.Set;
import java.util.TreeMap;
import java.util.TreeSet;

/**
 * The document's rules once more, written down as plainly as they stand there and with nothing in
 * common with the program: maps, sets and one list of messages. Random runs compare the two.
 */
final class PlainModel {
  static final int[] LOW = {1, 1, 1, 1, 1, 1, 1, 0};
  static final int[] HIGH = {1000, 10, 10, 10, 15, 3, 50, 10};

  private State now;
  private State checkpoint;

  PlainModel(int nodes) {
    now = new State(nodes < 2 ? 2 : nodes > 10 ? 10 : nodes);
  }

  static final class Entry {
    int sequence;
    int hops;
    int next;
    int expiry;
    TreeSet<Integer> users = new TreeSet<>();
    boolean set = true;

    Entry copy() {
      Entry e = new Entry();
      e.sequence = sequence;
      e.hops = hops;
      e.next = next;
      e.expiry = expiry;
      e.users = new TreeSet<>(users);
      e.set = set;
      return e;
    }
  }

  static final class Search {
    boolean repair;
    int range;
    int wide;
    int timeout;

    Search copy() {
      Search s = new Search();
      s.repair = repair;
      s.range = range;
      s.wide = wide;
      s.timeout = timeout;
      return s;
    }
  }

  static final class Packet {
    int number;
    int origin;
    int destination;
    int state;
    int node;
    int cameFrom;
    int hops;
    int end = -1;
    int cause;

    Packet copy() {
      Packet p = new Packet();
      p.number = number;
      p.origin = origin;
      p.destination = destination;
      p.state = state;
      p.node = node;
      p.cameFrom = cameFrom;
      p.hops = hops;
      p.end = end;
      p.cause = cause;
      return p;
    }
  }

  /** A message is never changed after it has been sent, so copies of a state share it. */
  record Message(int kind, int from, int to, int arrival, int o, int oSequence, int number, int d,
      int s, int h, int r, int e, int packet) {}

  static final class Node {
    int own;
    int requests;
    TreeMap<Integer, Entry> table = new TreeMap<>();
    Set<String> remembered = new HashSet<>();
    TreeMap<Integer, Search> searches = new TreeMap<>();
    TreeMap<Integer, List<Integer>> buffers = new TreeMap<>();

    Node copy() {
      Node n = new Node();
      n.own = own;
      n.requests = requests;
      table.forEach((d, e) -> n.table.put(d, e.copy()));
      n.remembered = new HashSet<>(remembered);
      searches.forEach((d, s) -> n.searches.put(d, s.copy()));
      buffers.forEach((d, b) -> n.buffers.put(d, new ArrayList<>(b)));
      return n;
    }

    List<Integer> buffer(int d) {
      return buffers.computeIfAbsent(d, x -> new ArrayList<>());
    }
  }

  static final class State {
    final int n;
    int time;
    int[] parameter = {60, 1, 2, 5, 10, 2, 20, 3};
    int[][] delay;
    Node[] nodes;
    List<Packet> packets = new ArrayList<>();
    List<Message> flying = new ArrayList<>();
    int[] sent = new int[4];
    TreeSet<Integer> becameValid = new TreeSet<>();

    State(int n) {
      this.n = n;
      delay = new int[n][n];
      nodes = new Node[n];
      for (int i = 0; i < n; i++) {
        nodes[i] = new Node();
      }
    }

    State copy() {
      State s = new State(n);
      s.time = time;
      s.parameter = parameter.clone();
      for (int i = 0; i < n; i++) {
        s.delay[i] = delay[i].clone();
        s.nodes[i] = nodes[i].copy();
      }
      for (Packet p : packets) {
        s.packets.add(p.copy());
      }
      s.flying = new ArrayList<>(flying);
      s.sent = sent.clone();
      return s;
    }

    int f() {
      return time + parameter[0];
    }

    boolean valid(int i, int d) {
      Entry e = nodes[i].table.get(d);
      return e != null && e.set && e.expiry > time;
    }

    void learn(int i, int d, int s, int h, int j, int expiry) {
      if (d == i) {
        return;
      }
      boolean before = valid(i, d);
      Entry e = nodes[i].table.get(d);
      if (e == null) {
        e = new Entry();
        e.sequence = s;
        overwrite(e, h, j, expiry);
        nodes[i].table.put(d, e);
      } else if (s == -1) {
        if (before && e.hops == h && e.next == j) {
          e.expiry = Math.max(e.expiry, expiry);
        } else {
          overwrite(e, h, j, expiry);
        }
      } else if (e.sequence < s || (e.sequence == s && (!before || e.hops > h))) {
        e.sequence = s;
        overwrite(e, h, j, expiry);
      } else if (before && e.sequence == s && e.hops == h && e.next == j) {
        e.expiry = Math.max(e.expiry, expiry);
      }
      if (!before && valid(i, d) && nodes[i].searches.containsKey(d)) {
        nodes[i].searches.remove(d);
        becameValid.add(d);
      }
    }

    private static void overwrite(Entry e, int h, int j, int expiry) {
      e.hops = h;
      e.next = j;
      e.expiry = expiry;
      e.set = true;
    }

    void post(int kind, int from, int to, int o, int oSeq, int number, int d, int s, int h, int r,
        int e, int packet) {
      if (delay[from][to] == 0) {
        throw new AssertionError("a message for a link that is down");
      }
      flying.add(new Message(kind, from, to, time + delay[from][to], o, oSeq, number, d, s, h, r, e,
          packet));
      sent[kind]++;
    }

    void error(int i, int to, int d) {
      Entry e = nodes[i].table.get(d);
      post(2, i, to, 0, 0, 0, d, e == null ? -1 : e.sequence, 0, 0, 0, 0);
    }

    void errorsToUsers(int i, int d) {
      Entry e = nodes[i].table.get(d);
      for (int user : e.users) {
        if (delay[i][user] > 0) {
          error(i, user, d);
        }
      }
      e.users.clear();
    }

    void drop(int number, int cause) {
      Packet p = packets.get(number);
      p.state = 3;
      p.cause = cause;
      p.end = time;
    }

    void atLeastF(int i, int d) {
      if (i != d && valid(i, d)) {
        Entry e = nodes[i].table.get(d);
        e.expiry = Math.max(e.expiry, f());
      }
    }

    void carry(int number, int i, int k) {
      Packet p = packets.get(number);
      int d = p.destination;
      p.node = i;
      p.cameFrom = k;
      if (i == d) {
        p.state = 2;
        p.end = time;
        return;
      }
      if (p.hops >= 30) {
        drop(number, 23);
        return;
      }
      Entry e = nodes[i].table.get(d);
      if (valid(i, d)) {
        int next = e.next;
        post(3, i, next, 0, 0, 0, 0, 0, 0, 0, 0, number);
        p.state = 1;
        p.node = next;
        p.hops++;
        atLeastF(i, d);
        atLeastF(i, next);
        atLeastF(i, p.origin);
        return;
      }
      if (i == p.origin) {
        putIntoBuffer(number, i, d);
        begin(i, d, false, parameter[1]);
        return;
      }
      if (parameter[7] > 0 && e != null && e.hops <= parameter[7]) {
        putIntoBuffer(number, i, d);
        begin(i, d, true, e.hops + 2);
        return;
      }
      drop(number, 12);
      if (k >= 0 && delay[i][k] > 0) {
        error(i, k, d);
      }
    }

    void putIntoBuffer(int number, int i, int d) {
      List<Integer> buffer = nodes[i].buffer(d);
      if (buffer.size() == 4) {
        drop(buffer.remove(0), 21);
      }
      buffer.add(number);
      packets.get(number).state = 0;
    }

    void begin(int i, int d, boolean repair, int range) {
      if (nodes[i].searches.containsKey(d)) {
        return;
      }
      Search s = new Search();
      s.repair = repair;
      nodes[i].searches.put(d, s);
      ask(i, d, range);
    }

    void ask(int i, int d, int r) {
      Node node = nodes[i];
      node.own++;
      node.requests++;
      node.remembered.add(i + "/" + node.requests);
      Entry e = node.table.get(d);
      broadcast(i, i, node.own, node.requests, d, e == null ? -1 : e.sequence, 0, r);
      Search s = node.searches.get(d);
      s.range = r;
      s.timeout = time + parameter[6] * (r + 1);
    }

    void broadcast(int i, int o, int oSeq, int number, int d, int q, int h, int r) {
      for (int k = 0; k < n; k++) {
        if (delay[i][k] > 0) {
          post(0, i, k, o, oSeq, number, d, q, h, r, 0, 0);
        }
      }
    }

    void timeout(int i, int d) {
      Search s = nodes[i].searches.get(d);
      if (s.repair) {
        nodes[i].searches.remove(d);
        dropAll(i, d, 13);
        errorsToUsers(i, d);
      } else if (s.wide == 0 && s.range < parameter[3]) {
        ask(i, d, Math.min(s.range + parameter[2], parameter[3]));
      } else if (s.wide < parameter[5]) {
        s.wide++;
        ask(i, d, parameter[4]);
      } else {
        nodes[i].searches.remove(d);
        dropAll(i, d, 11);
      }
    }

    void dropAll(int i, int d, int cause) {
      List<Integer> buffer = nodes[i].buffer(d);
      for (int number : buffer) {
        drop(number, cause);
      }
      buffer.clear();
    }

    void request(Message m) {
      int i = m.to;
      int j = m.from;
      learn(i, j, -1, 1, j, f());
      if (!nodes[i].remembered.add(m.o + "/" + m.number)) {
        return;
      }
      learn(i, m.o, m.oSequence, m.h + 1, j, f());
      if (i == m.d) {
        if (nodes[i].own < m.s) {
          nodes[i].own = m.s;
        }
        post(1, i, j, m.o, 0, 0, m.d, nodes[i].own, 0, 0, f(), 0);
        return;
      }
      Entry e = nodes[i].table.get(m.d);
      if (valid(i, m.d) && e.sequence >= 0 && e.sequence >= m.s) {
        e.users.add(j);
        Entry back = nodes[i].table.get(m.o);
        if (back != null) {
          back.users.add(e.next);
        }
        post(1, i, j, m.o, 0, 0, m.d, e.sequence, e.hops, 0, e.expiry, 0);
      } else if (m.r > 1) {
        int q = e == null ? m.s : Math.max(m.s, e.sequence);
        broadcast(i, m.o, m.oSequence, m.number, m.d, q, m.h + 1, m.r - 1);
      }
    }

    void reply(Message m) {
      int i = m.to;
      int j = m.from;
      learn(i, j, -1, 1, j, f());
      learn(i, m.d, m.s, m.h + 1, j, m.e);
      if (i != m.o && m.h < 30 && valid(i, m.o)) {
        int next = nodes[i].table.get(m.o).next;
        Entry e = nodes[i].table.get(m.d);
        if (e != null) {
          e.users.add(next);
        }
        post(1, i, next, m.o, 0, 0, m.d, m.s, m.h + 1, 0, m.e, 0);
      }
    }

    void errorArrives(Message m) {
      int i = m.to;
      Entry e = nodes[i].table.get(m.d);
      if (valid(i, m.d) && e.next == m.from) {
        e.set = false;
        if (e.sequence < m.s) {
          e.sequence = m.s;
        }
        errorsToUsers(i, m.d);
      }
    }

    Message firstMessage() {
      Message first = null;
      for (Message m : flying) {
        if (first == null || m.arrival < first.arrival) {
          first = m;
        }
      }
      return first;
    }

    /** Node and destination of the first timeout, null if there is none. */
    int[] firstTimeout() {
      int[] first = null;
      for (int i = 0; i < n; i++) {
        for (int d : nodes[i].searches.keySet()) {
          int t = nodes[i].searches.get(d).timeout;
          if (first == null || t < nodes[first[0]].searches.get(first[1]).timeout) {
            first = new int[] {i, d};
          }
        }
      }
      return first;
    }

    int nextTime() {
      Message m = firstMessage();
      int[] t = firstTimeout();
      int best = m == null ? -1 : m.arrival;
      if (t != null) {
        int due = nodes[t[0]].searches.get(t[1]).timeout;
        best = best == -1 ? due : Math.min(best, due);
      }
      return best;
    }

    int step() {
      int next = nextTime();
      if (next == -1) {
        return -1;
      }
      time = next;
      Message m = firstMessage();
      if (m == null || m.arrival > next) {
        int[] t = firstTimeout();
        timeout(t[0], t[1]);
        return 4;
      }
      flying.remove(m);
      if (m.kind == 0) {
        request(m);
      } else if (m.kind == 1) {
        reply(m);
      } else if (m.kind == 2) {
        errorArrives(m);
      } else {
        learn(m.to, m.from, -1, 1, m.from, f());
        carry(m.packet, m.to, m.from);
      }
      for (int d : becameValid) {
        List<Integer> buffer = nodes[m.to].buffer(d);
        List<Integer> all = new ArrayList<>(buffer);
        buffer.clear();
        for (int number : all) {
          carry(number, m.to, packets.get(number).cameFrom);
        }
      }
      becameValid.clear();
      return m.kind;
    }

    int run(int units) {
      int end = time + units;
      int events = 0;
      for (int t = nextTime(); t != -1 && t <= end; t = nextTime()) {
        step();
        events++;
      }
      time = end;
      return events;
    }

    int setLink(int a, int b, int value) {
      int before = delay[a][b];
      delay[a][b] = value;
      delay[b][a] = value;
      if (before == 0 || value > 0) {
        return before;
      }
      TreeSet<Integer> lost = new TreeSet<>();
      for (Message m : flying) {
        if (m.kind == 3 && on(m, a, b)) {
          lost.add(m.packet);
        }
      }
      flying.removeIf(m -> on(m, a, b));
      for (int number : lost) {
        drop(number, 22);
      }
      breakAt(Math.min(a, b), Math.max(a, b));
      breakAt(Math.max(a, b), Math.min(a, b));
      return before;
    }

    private static boolean on(Message m, int a, int b) {
      return (m.from == a && m.to == b) || (m.from == b && m.to == a);
    }

    private void breakAt(int i, int other) {
      for (int d : new ArrayList<>(nodes[i].table.keySet())) {
        Entry e = nodes[i].table.get(d);
        if (valid(i, d) && e.next == other) {
          e.set = false;
          if (e.sequence >= 0) {
            e.sequence++;
          }
          errorsToUsers(i, d);
        }
      }
    }

    int send(int origin, int destination) {
      Packet p = new Packet();
      p.number = packets.size();
      p.origin = origin;
      p.destination = destination;
      packets.add(p);
      carry(p.number, origin, -1);
      return p.number;
    }

    int count(int state) {
      int c = 0;
      for (Packet p : packets) {
        c += p.state == state ? 1 : 0;
      }
      return c;
    }

    int follow(int i, int d) {
      Set<Integer> seen = new HashSet<>();
      int links = 0;
      while (i != d) {
        if (!seen.add(i)) {
          return -2;
        }
        if (!valid(i, d)) {
          return -1;
        }
        i = nodes[i].table.get(d).next;
        links++;
      }
      return links;
    }

    int distance(int a, int b) {
      List<Integer> queue = new ArrayList<>(List.of(a));
      int[] far = new int[n];
      java.util.Arrays.fill(far, -1);
      far[a] = 0;
      for (int at = 0; at < queue.size(); at++) {
        int i = queue.get(at);
        for (int k = 0; k < n; k++) {
          if (delay[i][k] > 0 && far[k] < 0) {
            far[k] = far[i] + 1;
            queue.add(k);
          }
        }
      }
      return far[b];
    }
  }

  // ---- the face, numbered as in RandomRunsTest

  private void node(int... is) {
    for (int i : is) {
      if (i < 0 || i >= now.n) {
        throw new IndexOutOfBoundsException();
      }
    }
  }

  private static void index(int i, int count) {
    if (i < 0 || i >= count) {
      throw new IndexOutOfBoundsException();
    }
  }

  private static void argument(boolean good) {
    if (!good) {
      throw new IllegalArgumentException();
    }
  }

  int setLink(int a, int b, int delay) {
    node(a, b);
    argument(a != b && delay >= 0 && delay <= 9);
    return now.setLink(a, b, delay);
  }

  int link(int a, int b) {
    node(a, b);
    return a == b ? 0 : now.delay[a][b];
  }

  int setParameter(int parameter, int value) {
    index(parameter, 8);
    argument(value >= LOW[parameter] && value <= HIGH[parameter]);
    int before = now.parameter[parameter];
    now.parameter[parameter] = value;
    return before;
  }

  int send(int origin, int destination) {
    node(origin, destination);
    argument(origin != destination);
    if (now.packets.size() == 200) {
      throw new IllegalStateException();
    }
    return now.send(origin, destination);
  }

  int step() {
    return now.step();
  }

  int run(int units) {
    argument(units >= 0 && units <= 100000);
    return now.run(units);
  }

  int time() {
    return now.time;
  }

  int nextEvent() {
    return now.nextTime();
  }

  int inFlight(int kind) {
    index(kind, 4);
    int count = 0;
    for (Message m : now.flying) {
      count += m.kind == kind ? 1 : 0;
    }
    return count;
  }

  int sent(int kind) {
    index(kind, 4);
    return now.sent[kind];
  }

  boolean isValid(int node, int destination) {
    node(node, destination);
    return now.valid(node, destination);
  }

  private Entry entry(int node, int destination) {
    node(node, destination);
    return now.nodes[node].table.get(destination);
  }

  int nextNode(int node, int destination) {
    Entry e = entry(node, destination);
    return e == null ? -1 : e.next;
  }

  int hops(int node, int destination) {
    Entry e = entry(node, destination);
    return e == null ? -1 : e.hops;
  }

  int sequence(int node, int destination) {
    Entry e = entry(node, destination);
    return node == destination ? now.nodes[node].own : e == null ? -2 : e.sequence;
  }

  int expiry(int node, int destination) {
    Entry e = entry(node, destination);
    return e == null ? -1 : e.expiry;
  }

  int users(int node, int destination) {
    Entry e = entry(node, destination);
    int set = 0;
    if (e != null) {
      for (int user : e.users) {
        set |= 1 << user;
      }
    }
    return set;
  }

  int searching(int node, int destination) {
    node(node, destination);
    Search s = now.nodes[node].searches.get(destination);
    return s == null ? 0 : s.repair ? 2 : 1;
  }

  int timeout(int node, int destination) {
    node(node, destination);
    Search s = now.nodes[node].searches.get(destination);
    return s == null ? -1 : s.timeout;
  }

  int buffered(int node, int destination) {
    node(node, destination);
    return now.nodes[node].buffer(destination).size();
  }

  private Packet packet(int packet) {
    index(packet, now.packets.size());
    return now.packets.get(packet);
  }

  int stateOf(int packet) {
    return packet(packet).state;
  }

  int nodeOf(int packet) {
    return packet(packet).node;
  }

  int hopsOf(int packet) {
    return packet(packet).hops;
  }

  int endOf(int packet) {
    return packet(packet).end;
  }

  int whyDropped(int packet, int depth) {
    Packet p = packet(packet);
    index(depth, 2);
    return p.state != 3 ? 0 : depth == 0 ? p.cause / 10 : p.cause;
  }

  int packets(int state) {
    index(state, 4);
    return now.count(state);
  }

  int follow(int node, int destination) {
    node(node, destination);
    return now.follow(node, destination);
  }

  int loops() {
    int count = 0;
    for (int i = 0; i < now.n; i++) {
      for (int d = 0; d < now.n; d++) {
        count += i != d && now.follow(i, d) == -2 ? 1 : 0;
      }
    }
    return count;
  }

  int distance(int a, int b) {
    node(a, b);
    return now.distance(a, b);
  }

  int totalHops() {
    int sum = 0;
    for (Packet p : now.packets) {
      sum += p.state == 2 ? p.hops : 0;
    }
    return sum;
  }

  int forecast(int origin, int destination, int units) {
    node(origin, destination);
    argument(origin != destination && units >= 0 && units <= 100000);
    if (now.packets.size() == 200) {
      return -1;
    }
    State s = now.copy();
    int number = s.send(origin, destination);
    s.run(units);
    return s.packets.get(number).state;
  }

  int damage(int a, int b, int units) {
    node(a, b);
    argument(a != b && units >= 0 && units <= 100000);
    State s = now.copy();
    s.setLink(a, b, 0);
    s.run(units);
    return s.count(3) - now.count(3);
  }

  int keep() {
    checkpoint = now.copy();
    return now.time;
  }

  int restore() {
    if (checkpoint == null) {
      throw new IllegalStateException();
    }
    now = checkpoint.copy();
    return now.time;
  }

  long fingerprint() {
    List<Integer> numbers = new ArrayList<>();
    numbers.add(now.time);
    for (int kind = 0; kind < 4; kind++) {
      numbers.add(sent(kind));
    }
    for (int kind = 0; kind < 4; kind++) {
      numbers.add(inFlight(kind));
    }
    for (int i = 0; i < now.n; i++) {
      for (int d = 0; d < now.n; d++) {
        if (i != d) {
          numbers.addAll(List.of(isValid(i, d) ? 1 : 0, nextNode(i, d), hops(i, d),
              sequence(i, d), users(i, d), searching(i, d), buffered(i, d)));
        }
      }
    }
    for (int i = 0; i < now.n; i++) {
      numbers.add(now.nodes[i].own);
    }
    for (int state = 0; state < 4; state++) {
      numbers.add(packets(state));
    }
    long print = 29;
    for (int number : numbers) {
      print = 31 * print + number;
    }
    return print;
  }
}
