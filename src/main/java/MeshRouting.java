import java.util.Arrays;

/**
 * A simulator of reactive routing in a mesh network, in the manner of AODV (ad hoc on-demand
 * distance vector). Time goes on by events: arrivals of messages and timeouts of searches.
 *
 * <p>The whole state stands in a {@link Network}; an object has three of them, made once: the
 * present one, the checkpoint, and one on which forecast() and damage() try things out.
 */
public final class MeshRouting {
  private static final int LEAST_NODES = 2;
  private static final int MOST_NODES = 10;
  private static final int MOST_DELAY = 9;
  private static final int SLOTS = MOST_DELAY + 1;
  private static final int MOST_PACKETS = 200;
  private static final int MOST_UNITS = 100000;
  private static final int MOST_LINKS_OF_A_PACKET = 30;
  private static final int MOST_HOPS_OF_A_REPLY = 30;
  private static final int BUFFER_SIZE = 4;
  // Far above what 200 packets can bring about.
  private static final int MOST_EVENTS = 100000000;

  // Stands for no node, no time, no cell and an unknown sequence number.
  private static final int NONE = -1;
  private static final int NO_ENTRY_SEQUENCE = -2;
  // A table's cell for a node and a destination is node * MOST_NODES + destination.
  private static final int CELLS = MOST_NODES * MOST_NODES;

  private static final int REQUEST = 0;
  private static final int REPLY = 1;
  private static final int ERROR = 2;
  private static final int PACKET = 3;
  private static final int KINDS = 4;
  private static final int TIMEOUT = 4;

  private static final int LIFETIME = 0;
  private static final int START = 1;
  private static final int STEP = 2;
  private static final int THRESHOLD = 3;
  private static final int DIAMETER = 4;
  private static final int TRIES = 5;
  private static final int PATIENCE = 6;
  private static final int REPAIR = 7;
  private static final int PARAMETERS = 8;
  private static final int[] LEAST_VALUES = {1, 1, 1, 1, 1, 1, 1, 0};
  private static final int[] MOST_VALUES = {1000, 10, 10, 10, 15, 3, 50, 10};
  private static final int[] FIRST_VALUES = {60, 1, 2, 5, 10, 2, 20, 3};

  private static final int NO_ENTRY = 0;
  private static final int NOT_SET = 1;
  private static final int SET = 2;

  private static final int IDLE = 0;
  private static final int SEARCHING = 1;
  private static final int REPAIRING = 2;

  private static final int IN_BUFFER = 0;
  private static final int ON_LINK = 1;
  private static final int DELIVERED = 2;
  private static final int DROPPED = 3;
  private static final int STATES = 4;

  private static final int SEARCH_FAILED = 11;
  private static final int NO_ROUTE = 12;
  private static final int REPAIR_FAILED = 13;
  private static final int BUFFER_FULL = 21;
  private static final int LINK_BROKE = 22;
  private static final int TOO_MANY_LINKS = 23;

  private static final int WITHOUT_ROUTE = -1;
  private static final int IN_A_LOOP = -2;

  private final int nodes;
  private final Network present;
  private final Network checkpoint;
  private final Network trial;
  private boolean hasCheckpoint;

  public MeshRouting(int nodes) {
    this.nodes = Math.max(LEAST_NODES, Math.min(MOST_NODES, nodes));
    present = new Network(this.nodes);
    checkpoint = new Network(this.nodes);
    trial = new Network(this.nodes);
  }

  // ---- links, parameters

  public int setLink(int a, int b, int delay)
      throws IndexOutOfBoundsException, IllegalArgumentException {
    checkTwoNodes(a, b);
    checkRange(delay, 0, MOST_DELAY);
    return present.changeLink(a, b, delay);
  }

  public int link(int a, int b) throws IndexOutOfBoundsException {
    checkNodes(a, b);
    return present.links.delays[a][b];
  }

  public int setParameter(int parameter, int value)
      throws IndexOutOfBoundsException, IllegalArgumentException {
    checkIndex(parameter, PARAMETERS);
    checkRange(value, LEAST_VALUES[parameter], MOST_VALUES[parameter]);
    int previous = present.parameters[parameter];
    present.parameters[parameter] = value;
    return previous;
  }

  // ---- packets, time

  public int send(int origin, int destination)
      throws IndexOutOfBoundsException, IllegalArgumentException, IllegalStateException {
    checkTwoNodes(origin, destination);
    if (present.packets.count >= MOST_PACKETS) {
      throw new IllegalStateException("all packets have been sent");
    }
    return present.launch(origin, destination);
  }

  public int step() {
    return present.happen();
  }

  public int run(int units) throws IllegalArgumentException {
    checkRange(units, 0, MOST_UNITS);
    return present.advance(units);
  }

  public int time() {
    return present.time;
  }

  public int nextEvent() {
    return present.timeOfNext();
  }

  public int inFlight(int kind) throws IndexOutOfBoundsException {
    checkIndex(kind, KINDS);
    return present.links.onTheWay[kind];
  }

  public int sent(int kind) throws IndexOutOfBoundsException {
    checkIndex(kind, KINDS);
    return present.links.everSent[kind];
  }

  // ---- tables

  public boolean isValid(int node, int destination) throws IndexOutOfBoundsException {
    checkNodes(node, destination);
    return present.routes.usable(cellOf(node, destination), present.time);
  }

  public int nextNode(int node, int destination) throws IndexOutOfBoundsException {
    checkNodes(node, destination);
    return present.routes.nextNodes[cellOf(node, destination)];
  }

  public int hops(int node, int destination) throws IndexOutOfBoundsException {
    checkNodes(node, destination);
    return present.routes.hopCounts[cellOf(node, destination)];
  }

  public int sequence(int node, int destination) throws IndexOutOfBoundsException {
    checkNodes(node, destination);
    return present.sequenceShown(node, destination);
  }

  public int expiry(int node, int destination) throws IndexOutOfBoundsException {
    checkNodes(node, destination);
    return present.routes.expiries[cellOf(node, destination)];
  }

  public int users(int node, int destination) throws IndexOutOfBoundsException {
    checkNodes(node, destination);
    return present.routes.userSets[cellOf(node, destination)];
  }

  public int searching(int node, int destination) throws IndexOutOfBoundsException {
    checkNodes(node, destination);
    return present.searches.activities[cellOf(node, destination)];
  }

  public int timeout(int node, int destination) throws IndexOutOfBoundsException {
    checkNodes(node, destination);
    return present.searches.deadlines[cellOf(node, destination)];
  }

  public int buffered(int node, int destination) throws IndexOutOfBoundsException {
    checkNodes(node, destination);
    return present.searches.waiting[cellOf(node, destination)];
  }

  // ---- packets that were sent

  public int stateOf(int packet) throws IndexOutOfBoundsException {
    checkIndex(packet, present.packets.count);
    return present.packets.states[packet];
  }

  public int nodeOf(int packet) throws IndexOutOfBoundsException {
    checkIndex(packet, present.packets.count);
    return present.packets.places[packet];
  }

  public int hopsOf(int packet) throws IndexOutOfBoundsException {
    checkIndex(packet, present.packets.count);
    return present.packets.linksUsed[packet];
  }

  public int endOf(int packet) throws IndexOutOfBoundsException {
    checkIndex(packet, present.packets.count);
    return present.packets.ends[packet];
  }

  public int whyDropped(int packet, int depth) throws IndexOutOfBoundsException {
    checkIndex(packet, present.packets.count);
    checkIndex(depth, 2);
    int cause = present.packets.causes[packet];
    return depth == 0 ? cause / 10 : cause;
  }

  public int packets(int state) throws IndexOutOfBoundsException {
    checkIndex(state, STATES);
    return present.packets.inState(state);
  }

  // ---- analysis

  public int follow(int node, int destination) throws IndexOutOfBoundsException {
    checkNodes(node, destination);
    return present.walk(node, destination);
  }

  public int loops() {
    int pairs = 0;
    for (int node = 0; node < nodes; node++) {
      for (int destination = 0; destination < nodes; destination++) {
        if (present.walk(node, destination) == IN_A_LOOP) {
          pairs++;
        }
      }
    }
    return pairs;
  }

  public int distance(int a, int b) throws IndexOutOfBoundsException {
    checkNodes(a, b);
    return present.links.fewestLinks(a, b);
  }

  public int totalHops() {
    return present.packets.linksOfDelivered();
  }

  public int forecast(int origin, int destination, int units)
      throws IndexOutOfBoundsException, IllegalArgumentException {
    checkTwoNodes(origin, destination);
    checkRange(units, 0, MOST_UNITS);
    if (present.packets.count >= MOST_PACKETS) {
      return NONE;
    }
    trial.become(present);
    int packet = trial.launch(origin, destination);
    trial.advance(units);
    return trial.packets.states[packet];
  }

  public int damage(int a, int b, int units)
      throws IndexOutOfBoundsException, IllegalArgumentException {
    checkTwoNodes(a, b);
    checkRange(units, 0, MOST_UNITS);
    trial.become(present);
    trial.changeLink(a, b, 0);
    trial.advance(units);
    return trial.packets.inState(DROPPED) - present.packets.inState(DROPPED);
  }

  // ---- checkpoints

  public int keep() {
    checkpoint.become(present);
    hasCheckpoint = true;
    return present.time;
  }

  public int restore() throws IllegalStateException {
    if (!hasCheckpoint) {
      throw new IllegalStateException("nothing was kept");
    }
    present.become(checkpoint);
    return present.time;
  }

  public long fingerprint() {
    long print = present.links.mixedInto(29L * 31 + present.time);
    for (int node = 0; node < nodes; node++) {
      for (int destination = 0; destination < nodes; destination++) {
        if (destination != node) {
          print = present.cellMixedInto(print, node, destination);
        }
      }
    }
    for (int node = 0; node < nodes; node++) {
      print = print * 31 + present.ownSequences[node];
    }
    for (int state = 0; state < STATES; state++) {
      print = print * 31 + present.packets.inState(state);
    }
    return print;
  }

  // ---- what the calls check

  private void checkNodes(int a, int b) {
    checkIndex(a, nodes);
    checkIndex(b, nodes);
  }

  private void checkTwoNodes(int a, int b) {
    checkNodes(a, b);
    if (a == b) {
      throw new IllegalArgumentException("both nodes are the same");
    }
  }

  private static void checkIndex(int index, int count) {
    if (index < 0 || index >= count) {
      throw new IndexOutOfBoundsException("out of its range");
    }
  }

  private static void checkRange(int value, int least, int most) {
    if (value < least || value > most) {
      throw new IllegalArgumentException("out of its range");
    }
  }

  private static int cellOf(int node, int destination) {
    return node * MOST_NODES + destination;
  }

  private static void copyRow(int[] from, int[] to) {
    System.arraycopy(from, 0, to, 0, Math.min(from.length, to.length));
  }

  private static int[] filledRow(int length, int value) {
    int[] row = new int[Math.max(0, length)];
    Arrays.fill(row, value);
    return row;
  }

  /**
   * A message on a link; off all links also the pattern of messages that are to be sent. Each kind
   * uses only some of the fields.
   */
  private static final class Message {
    int kind;
    int from;
    int to;
    int origin;
    int originSequence;
    int ask;
    int destination;
    int sequence;
    int hopCount;
    int range;
    int expiry;
    int packet;
    Message following;

    boolean isBetween(int a, int b) {
      return (from == a && to == b) || (from == b && to == a);
    }

    void copyContent(Message other) {
      origin = other.origin;
      originSequence = other.originSequence;
      ask = other.ask;
      destination = other.destination;
      sequence = other.sequence;
      hopCount = other.hopCount;
      range = other.range;
      expiry = other.expiry;
      packet = other.packet;
    }
  }

  /**
   * The links, and the messages on them. A message is on its way for at most MOST_DELAY units, so
   * that those of one slot (arrival time modulo SLOTS) all arrive at one time; each slot keeps them
   * in the order in which they were sent.
   */
  private static final class Links {
    final int nodes;
    final int[][] delays = new int[MOST_NODES][MOST_NODES];
    final int[] onTheWay = new int[KINDS];
    final int[] everSent = new int[KINDS];
    private final Message[] first = new Message[SLOTS];
    private final Message[] last = new Message[SLOTS];
    // Messages that are on no link, to be used again.
    private Message spare;

    Links(int nodes) {
      this.nodes = nodes;
    }

    boolean isUp(int a, int b) {
      return delays[a][b] > 0;
    }

    /** Puts a message on a link; what it says is for the caller to fill in. */
    Message put(int kind, int from, int to, int arrival) {
      Message message = spare;
      if (message == null) {
        message = new Message();
      } else {
        spare = message.following;
      }
      message.kind = kind;
      message.from = from;
      message.to = to;
      message.following = null;
      int slot = Math.floorMod(arrival, SLOTS);
      Message before = last[slot];
      if (before == null) {
        first[slot] = message;
      } else {
        before.following = message;
      }
      last[slot] = message;
      everSent[kind]++;
      onTheWay[kind]++;
      return message;
    }

    /** The time of the next arrival, NONE if nothing is on a link. */
    int nextArrival(int now) {
      for (int wait = 0; wait < SLOTS; wait++) {
        if (first[Math.floorMod(now + wait, SLOTS)] != null) {
          return now + wait;
        }
      }
      return NONE;
    }

    /** Takes the message that arrives first at a time off its link; null if there is none. */
    Message takeArrived(int time) {
      int slot = Math.floorMod(time, SLOTS);
      Message message = first[slot];
      if (message != null) {
        first[slot] = message.following;
        if (message.following == null) {
          last[slot] = null;
        }
        onTheWay[message.kind]--;
      }
      return message;
    }

    void giveBack(Message message) {
      message.following = spare;
      spare = message;
    }

    void loseMessages(int a, int b) {
      for (int slot = 0; slot < SLOTS; slot++) {
        Message before = null;
        Message after;
        for (Message message = first[slot]; message != null; message = after) {
          after = message.following;
          if (!message.isBetween(a, b)) {
            before = message;
            continue;
          }
          if (before == null) {
            first[slot] = after;
          } else {
            before.following = after;
          }
          onTheWay[message.kind]--;
          giveBack(message);
        }
        last[slot] = before;
      }
    }

    int fewestLinks(int a, int b) {
      int reached = 1 << a;
      for (int links = 0; links < nodes; links++) {
        if ((reached >> b & 1) != 0) {
          return links;
        }
        reached |= neighbours(reached);
      }
      return NONE;
    }

    private int neighbours(int set) {
      int found = 0;
      for (int a = 0; a < nodes; a++) {
        for (int b = 0; b < nodes; b++) {
          if ((set >> a & 1) != 0 && isUp(a, b)) {
            found |= 1 << b;
          }
        }
      }
      return found;
    }

    long mixedInto(long print) {
      long mixed = print;
      for (int kind = 0; kind < KINDS; kind++) {
        mixed = mixed * 31 + everSent[kind];
      }
      for (int kind = 0; kind < KINDS; kind++) {
        mixed = mixed * 31 + onTheWay[kind];
      }
      return mixed;
    }

    void become(Links other) {
      for (int node = 0; node < MOST_NODES; node++) {
        copyRow(other.delays[node], delays[node]);
      }
      for (int slot = 0; slot < SLOTS; slot++) {
        emptySlot(slot);
        for (Message theirs = other.first[slot]; theirs != null; theirs = theirs.following) {
          Message mine = put(theirs.kind, theirs.from, theirs.to, slot);
          mine.copyContent(theirs);
        }
      }
      copyRow(other.onTheWay, onTheWay);
      copyRow(other.everSent, everSent);
    }

    private void emptySlot(int slot) {
      Message end = last[slot];
      if (end != null) {
        end.following = spare;
        spare = first[slot];
        first[slot] = null;
        last[slot] = null;
      }
    }
  }

  /**
   * The entries of all nodes. A missing entry has the values that its questions answer, which for
   * learn() is the same as an entry that is not set and whose sequence number is not known.
   */
  private static final class Routes {
    final int[] marks = new int[CELLS];
    final int[] sequences = filledRow(CELLS, NONE);
    final int[] hopCounts = filledRow(CELLS, NONE);
    final int[] nextNodes = filledRow(CELLS, NONE);
    final int[] expiries = filledRow(CELLS, NONE);
    final int[] userSets = new int[CELLS];

    boolean exists(int cell) {
      return marks[cell] != NO_ENTRY;
    }

    boolean usable(int cell, int now) {
      return marks[cell] == SET && expiries[cell] > now;
    }

    void learn(int cell, int sequence, int hopCount, int next, int expiry, int now) {
      boolean usable = usable(cell, now);
      boolean sameWay = usable && hopCounts[cell] == hopCount && nextNodes[cell] == next;
      boolean better = sequence == NONE ? !sameWay
          : sequences[cell] < sequence
              || sequences[cell] == sequence && (!usable || hopCounts[cell] > hopCount);
      if (better) {
        marks[cell] = SET;
        sequences[cell] = sequence == NONE ? sequences[cell] : sequence;
        hopCounts[cell] = hopCount;
        nextNodes[cell] = next;
        expiries[cell] = expiry;
      } else if (sameWay && (sequence == NONE || sequences[cell] == sequence)) {
        expiries[cell] = Math.max(expiries[cell], expiry);
      }
    }

    void prolong(int cell, int expiry, int now) {
      if (usable(cell, now)) {
        expiries[cell] = Math.max(expiries[cell], expiry);
      }
    }

    void addUser(int cell, int user) {
      if (exists(cell)) {
        userSets[cell] |= 1 << user;
      }
    }

    void become(Routes other) {
      copyRow(other.marks, marks);
      copyRow(other.sequences, sequences);
      copyRow(other.hopCounts, hopCounts);
      copyRow(other.nextNodes, nextNodes);
      copyRow(other.expiries, expiries);
      copyRow(other.userSets, userSets);
    }
  }

  /** The searches and repairs that are going on, and the buffers. */
  private static final class Searches {
    final int[] activities = new int[CELLS];
    final int[] deadlines = filledRow(CELLS, NONE);
    final int[] lastRanges = new int[CELLS];
    final int[] widestAsks = new int[CELLS];
    final int[] waiting = new int[CELLS];
    private final int[] buffers = new int[CELLS * BUFFER_SIZE];
    // The cell whose timeout comes first, NONE if there is none.
    int due = NONE;

    boolean isIdle(int cell) {
      return activities[cell] == IDLE;
    }

    void begin(int cell, int activity) {
      activities[cell] = activity;
      widestAsks[cell] = 0;
    }

    void waitUntil(int cell, int range, int deadline) {
      lastRanges[cell] = range;
      deadlines[cell] = deadline;
      findDue();
    }

    void end(int cell) {
      activities[cell] = IDLE;
      deadlines[cell] = NONE;
      findDue();
    }

    private void findDue() {
      due = NONE;
      for (int cell = 0; cell < CELLS; cell++) {
        if (deadlines[cell] != NONE && (due == NONE || deadlines[cell] < deadlines[due])) {
          due = cell;
        }
      }
    }

    int nextDeadline() {
      return due == NONE ? NONE : deadlines[due];
    }

    boolean isFull(int cell) {
      return waiting[cell] >= BUFFER_SIZE;
    }

    void hold(int cell, int packet) {
      if (!isFull(cell)) {
        buffers[cell * BUFFER_SIZE + waiting[cell]] = packet;
        waiting[cell]++;
      }
    }

    /** Takes the oldest packet out of a buffer; NONE if there is none. */
    int takeOldest(int cell) {
      if (waiting[cell] == 0) {
        return NONE;
      }
      int start = cell * BUFFER_SIZE;
      int oldest = buffers[start];
      waiting[cell]--;
      System.arraycopy(buffers, start + 1, buffers, start, waiting[cell]);
      return oldest;
    }

    void become(Searches other) {
      copyRow(other.activities, activities);
      copyRow(other.deadlines, deadlines);
      copyRow(other.lastRanges, lastRanges);
      copyRow(other.widestAsks, widestAsks);
      copyRow(other.waiting, waiting);
      copyRow(other.buffers, buffers);
      due = other.due;
    }
  }

  /** The packets that were sent. */
  private static final class Packets {
    int count;
    final int[] origins = new int[MOST_PACKETS];
    final int[] destinations = new int[MOST_PACKETS];
    final int[] states = new int[MOST_PACKETS];
    final int[] places = new int[MOST_PACKETS];
    final int[] cameFrom = new int[MOST_PACKETS];
    final int[] linksUsed = new int[MOST_PACKETS];
    final int[] ends = filledRow(MOST_PACKETS, NONE);
    final int[] causes = new int[MOST_PACKETS];

    void deliver(int packet, int now) {
      states[packet] = DELIVERED;
      ends[packet] = now;
    }

    void drop(int packet, int cause, int now) {
      states[packet] = DROPPED;
      causes[packet] = cause;
      ends[packet] = now;
    }

    void putOnLink(int packet, int from, int to) {
      states[packet] = ON_LINK;
      places[packet] = to;
      cameFrom[packet] = from;
      linksUsed[packet]++;
    }

    boolean isBetween(int packet, int a, int b) {
      int from = cameFrom[packet];
      int to = places[packet];
      return states[packet] == ON_LINK && (from == a && to == b || from == b && to == a);
    }

    int inState(int state) {
      int found = 0;
      for (int packet = 0; packet < count; packet++) {
        if (states[packet] == state) {
          found++;
        }
      }
      return found;
    }

    int linksOfDelivered() {
      int sum = 0;
      for (int packet = 0; packet < count; packet++) {
        if (states[packet] == DELIVERED) {
          sum += linksUsed[packet];
        }
      }
      return sum;
    }

    void become(Packets other) {
      count = other.count;
      copyRow(other.origins, origins);
      copyRow(other.destinations, destinations);
      copyRow(other.states, states);
      copyRow(other.places, places);
      copyRow(other.cameFrom, cameFrom);
      copyRow(other.linksUsed, linksUsed);
      copyRow(other.ends, ends);
      copyRow(other.causes, causes);
    }
  }

  /** The whole mesh: what the nodes know and do, and the order of events. */
  private static final class Network {
    final int nodes;
    int time;
    final int[] parameters = FIRST_VALUES.clone();
    final int[] ownSequences = new int[MOST_NODES];
    final Links links;
    final Routes routes = new Routes();
    final Searches searches = new Searches();
    final Packets packets = new Packets();
    // Asks are numbered over all nodes, which tells them apart as well as the pairs of origin and
    // request number do; for each of them the set of the nodes that made or handled its request.
    private int asks;
    private int[] handled = new int[256];
    // The destinations whose search ended by the message that is being handled.
    private int found;
    private final Message pattern = new Message();

    Network(int nodes) {
      this.nodes = nodes;
      links = new Links(nodes);
    }

    void become(Network other) {
      time = other.time;
      copyRow(other.parameters, parameters);
      copyRow(other.ownSequences, ownSequences);
      links.become(other.links);
      routes.become(other.routes);
      searches.become(other.searches);
      packets.become(other.packets);
      asks = other.asks;
      if (handled.length < asks) {
        handled = new int[other.handled.length];
      }
      System.arraycopy(other.handled, 0, handled, 0, asks);
    }

    // -- events

    int timeOfNext() {
      int arrival = links.nextArrival(time);
      int deadline = searches.nextDeadline();
      return arrival == NONE || deadline != NONE && deadline < arrival ? deadline : arrival;
    }

    int advance(int units) {
      int until = time + units;
      int events = 0;
      while (events < MOST_EVENTS && timeOfNext() != NONE && timeOfNext() <= until) {
        happen();
        events++;
      }
      time = until;
      return events;
    }

    /** Lets the next event happen, and returns its kind, NONE if there is none. */
    int happen() {
      int next = timeOfNext();
      if (next == NONE) {
        return NONE;
      }
      time = next;
      Message message = links.takeArrived(next);
      if (message == null) {
        handleTimeout(searches.due);
        return TIMEOUT;
      }
      switch (message.kind) {
        case REQUEST:
          handleRequest(message);
          break;
        case REPLY:
          handleReply(message);
          break;
        case ERROR:
          handleError(message);
          break;
        default:
          learnNeighbour(message);
          carry(message.packet, message.to);
      }
      carryFound(message.to);
      links.giveBack(message);
      return message.kind;
    }

    int launch(int origin, int destination) {
      int packet = packets.count;
      if (packet >= MOST_PACKETS) {
        return NONE;
      }
      packets.count++;
      packets.origins[packet] = origin;
      packets.destinations[packet] = destination;
      packets.cameFrom[packet] = NONE;
      carry(packet, origin);
      return packet;
    }

    // -- links

    int changeLink(int a, int b, int delay) {
      int previous = links.delays[a][b];
      links.delays[a][b] = delay;
      links.delays[b][a] = delay;
      if (previous > 0 && delay == 0) {
        dropPacketsBetween(a, b);
        links.loseMessages(a, b);
        breakRoutes(Math.min(a, b), Math.max(a, b));
        breakRoutes(Math.max(a, b), Math.min(a, b));
      }
      return previous;
    }

    private void dropPacketsBetween(int a, int b) {
      for (int packet = 0; packet < packets.count; packet++) {
        if (packets.isBetween(packet, a, b)) {
          packets.drop(packet, LINK_BROKE, time);
        }
      }
    }

    private void breakRoutes(int node, int lost) {
      for (int destination = 0; destination < nodes; destination++) {
        int cell = cellOf(node, destination);
        if (routes.usable(cell, time) && routes.nextNodes[cell] == lost) {
          routes.marks[cell] = NOT_SET;
          if (routes.sequences[cell] != NONE) {
            routes.sequences[cell]++;
          }
          warnUsers(node, destination);
        }
      }
    }

    // -- learning

    private int freshExpiry() {
      return time + parameters[LIFETIME];
    }

    private void learnNeighbour(Message message) {
      learn(message.to, message.from, NONE, 1, message.from, freshExpiry());
    }

    private void learn(int node, int destination, int sequence, int hopCount, int next,
        int expiry) {
      if (destination == node) {
        return;
      }
      int cell = cellOf(node, destination);
      routes.learn(cell, sequence, hopCount, next, expiry, time);
      if (!searches.isIdle(cell) && routes.usable(cell, time)) {
        searches.end(cell);
        found |= 1 << destination;
      }
    }

    /**
     * Carries the packets whose search has ended. Carried in full: what a reply tells of its
     * sender can have ended the validity of the very route that it brought about.
     */
    private void carryFound(int node) {
      for (int destination = 0; destination < nodes; destination++) {
        if ((found >> destination & 1) != 0) {
          int cell = cellOf(node, destination);
          for (int left = searches.waiting[cell]; left > 0; left--) {
            carry(searches.takeOldest(cell), node);
          }
        }
      }
      found = 0;
    }

    // -- packets

    private void carry(int packet, int node) {
      int destination = packets.destinations[packet];
      int cell = cellOf(node, destination);
      packets.places[packet] = node;
      if (node == destination) {
        packets.deliver(packet, time);
      } else if (packets.linksUsed[packet] >= MOST_LINKS_OF_A_PACKET) {
        packets.drop(packet, TOO_MANY_LINKS, time);
      } else if (routes.usable(cell, time)) {
        forward(packet, node, cell);
      } else if (node == packets.origins[packet]) {
        hold(packet, cell);
        if (searches.isIdle(cell)) {
          searches.begin(cell, SEARCHING);
          broadcast(node, newRequest(node, destination, parameters[START]));
        }
      } else if (isRepairable(cell)) {
        hold(packet, cell);
        if (searches.isIdle(cell)) {
          searches.begin(cell, REPAIRING);
          broadcast(node, newRequest(node, destination, routes.hopCounts[cell] + 2));
        }
      } else {
        packets.drop(packet, NO_ROUTE, time);
        int from = packets.cameFrom[packet];
        if (from != NONE && links.isUp(node, from)) {
          sendError(node, from, destination);
        }
      }
    }

    private boolean isRepairable(int cell) {
      int most = parameters[REPAIR];
      return most > 0 && routes.exists(cell) && routes.hopCounts[cell] <= most;
    }

    private void forward(int packet, int node, int cell) {
      int next = routes.nextNodes[cell];
      Message message = links.put(PACKET, node, next, arrivalOver(node, next));
      message.packet = packet;
      packets.putOnLink(packet, node, next);
      routes.prolong(cell, freshExpiry(), time);
      routes.prolong(cellOf(node, next), freshExpiry(), time);
      routes.prolong(cellOf(node, packets.origins[packet]), freshExpiry(), time);
    }

    private void hold(int packet, int cell) {
      if (searches.isFull(cell)) {
        packets.drop(searches.takeOldest(cell), BUFFER_FULL, time);
      }
      searches.hold(cell, packet);
      packets.states[packet] = IN_BUFFER;
    }

    private void dropBuffer(int cell, int cause) {
      for (int left = searches.waiting[cell]; left > 0; left--) {
        packets.drop(searches.takeOldest(cell), cause, time);
      }
    }

    // -- searches and repairs

    /** Sets out to ask for a destination; the request that it returns is to be broadcast. */
    private Message newRequest(int node, int destination, int range) {
      int cell = cellOf(node, destination);
      searches.waitUntil(cell, range, time + parameters[PATIENCE] * (range + 1));
      ownSequences[node]++;
      pattern.origin = node;
      pattern.originSequence = ownSequences[node];
      pattern.ask = newAsk(node);
      pattern.destination = destination;
      pattern.sequence = routes.sequences[cell];
      pattern.hopCount = 0;
      pattern.range = range;
      return pattern;
    }

    private int newAsk(int node) {
      if (asks >= handled.length) {
        handled = Arrays.copyOf(handled, 2 * asks);
      }
      handled[asks] = 1 << node;
      asks++;
      return asks - 1;
    }

    private void handleTimeout(int cell) {
      int node = cell / MOST_NODES;
      int destination = cell % MOST_NODES;
      if (searches.activities[cell] == REPAIRING) {
        searches.end(cell);
        dropBuffer(cell, REPAIR_FAILED);
        warnUsers(node, destination);
        return;
      }
      int range = searches.lastRanges[cell];
      if (searches.widestAsks[cell] == 0 && range < parameters[THRESHOLD]) {
        int wider = Math.min(range + parameters[STEP], parameters[THRESHOLD]);
        broadcast(node, newRequest(node, destination, wider));
      } else if (searches.widestAsks[cell] < parameters[TRIES]) {
        searches.widestAsks[cell]++;
        broadcast(node, newRequest(node, destination, parameters[DIAMETER]));
      } else {
        searches.end(cell);
        dropBuffer(cell, SEARCH_FAILED);
      }
    }

    // -- messages

    private int arrivalOver(int a, int b) {
      return time + links.delays[a][b];
    }

    private void broadcast(int node, Message content) {
      for (int other = 0; other < nodes; other++) {
        if (links.isUp(node, other)) {
          Message message = links.put(REQUEST, node, other, arrivalOver(node, other));
          message.copyContent(content);
        }
      }
    }

    private void handleRequest(Message request) {
      int node = request.to;
      learnNeighbour(request);
      if (!remember(node, request.ask)) {
        return;
      }
      learn(node, request.origin, request.originSequence, request.hopCount + 1, request.from,
          freshExpiry());
      int cell = cellOf(node, request.destination);
      if (node == request.destination) {
        ownSequences[node] = Math.max(ownSequences[node], request.sequence);
        sendReply(request, ownSequences[node], 0, freshExpiry());
      } else if (routes.usable(cell, time) && routes.sequences[cell] != NONE
          && routes.sequences[cell] >= request.sequence) {
        routes.addUser(cell, request.from);
        routes.addUser(cellOf(node, request.origin), routes.nextNodes[cell]);
        sendReply(request, routes.sequences[cell], routes.hopCounts[cell], routes.expiries[cell]);
      } else if (request.range > 1) {
        request.hopCount++;
        request.range--;
        request.sequence = Math.max(request.sequence, routes.sequences[cell]);
        broadcast(node, request);
      }
    }

    /** Remembers a request at a node; false if it was remembered there already. */
    private boolean remember(int node, int ask) {
      if (ask < 0 || ask >= asks || (handled[ask] >> node & 1) != 0) {
        return false;
      }
      handled[ask] |= 1 << node;
      return true;
    }

    private void sendReply(Message request, int sequence, int hopCount, int expiry) {
      int node = request.to;
      Message reply = links.put(REPLY, node, request.from, arrivalOver(node, request.from));
      reply.destination = request.destination;
      reply.sequence = sequence;
      reply.origin = request.origin;
      reply.hopCount = hopCount;
      reply.expiry = expiry;
    }

    private void handleReply(Message reply) {
      int node = reply.to;
      learnNeighbour(reply);
      learn(node, reply.destination, reply.sequence, reply.hopCount + 1, reply.from, reply.expiry);
      int back = cellOf(node, reply.origin);
      if (node != reply.origin && reply.hopCount < MOST_HOPS_OF_A_REPLY
          && routes.usable(back, time)) {
        int next = routes.nextNodes[back];
        routes.addUser(cellOf(node, reply.destination), next);
        Message onward = links.put(REPLY, node, next, arrivalOver(node, next));
        onward.copyContent(reply);
        onward.hopCount++;
      }
    }

    private void handleError(Message error) {
      int cell = cellOf(error.to, error.destination);
      if (routes.usable(cell, time) && routes.nextNodes[cell] == error.from) {
        routes.marks[cell] = NOT_SET;
        routes.sequences[cell] = Math.max(routes.sequences[cell], error.sequence);
        warnUsers(error.to, error.destination);
      }
    }

    private void warnUsers(int node, int destination) {
      int cell = cellOf(node, destination);
      for (int user = 0; user < nodes; user++) {
        if ((routes.userSets[cell] >> user & 1) != 0 && links.isUp(node, user)) {
          sendError(node, user, destination);
        }
      }
      routes.userSets[cell] = 0;
    }

    private void sendError(int node, int to, int destination) {
      Message error = links.put(ERROR, node, to, arrivalOver(node, to));
      error.destination = destination;
      error.sequence = routes.sequences[cellOf(node, destination)];
    }

    // -- questions

    /** Follows valid routes; the number of links, WITHOUT_ROUTE or IN_A_LOOP. */
    int walk(int start, int destination) {
      int node = start;
      // Without a loop no node is there twice, so that fewer links than nodes are enough.
      for (int followed = 0; followed < nodes; followed++) {
        if (node == destination) {
          return followed;
        }
        int cell = cellOf(node, destination);
        if (!routes.usable(cell, time)) {
          return WITHOUT_ROUTE;
        }
        node = routes.nextNodes[cell];
      }
      return IN_A_LOOP;
    }

    int sequenceShown(int node, int destination) {
      if (node == destination) {
        return ownSequences[node];
      }
      int cell = cellOf(node, destination);
      return routes.exists(cell) ? routes.sequences[cell] : NO_ENTRY_SEQUENCE;
    }

    long cellMixedInto(long print, int node, int destination) {
      int cell = cellOf(node, destination);
      long mixed = print * 31 + (routes.usable(cell, time) ? 1 : 0);
      mixed = mixed * 31 + routes.nextNodes[cell];
      mixed = mixed * 31 + routes.hopCounts[cell];
      mixed = mixed * 31 + sequenceShown(node, destination);
      mixed = mixed * 31 + routes.userSets[cell];
      mixed = mixed * 31 + searches.activities[cell];
      return mixed * 31 + searches.waiting[cell];
    }
  }
}
