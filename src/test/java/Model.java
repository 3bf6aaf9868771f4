import java.util.ArrayDeque;
import java.util.ArrayList;
import java.util.Deque;
import java.util.HashMap;
import java.util.HashSet;
import java.util.List;
import java.util.Map;
import java.util.Set;
import java.util.TreeMap;
import java.util.TreeSet;
import java.util.regex.Matcher;
import java.util.regex.Pattern;

/** The document told a second time, slowly and in another way, to compare MarbleWorks with. */
final class Model {
  static final class Fault extends RuntimeException {
    private static final long serialVersionUID = 1;
    final int number;

    Fault(int number) {
      this.number = number;
    }
  }

  /** kind, size (sieve: kind, counter: n), shows. */
  static final class Piece {
    final int kind;
    final int size;
    int shows;

    Piece(int kind, int size, int shows) {
      this.kind = kind;
      this.size = size;
      this.shows = shows;
    }

    boolean moving() {
      return kind == 4 || kind == 7 || kind == 9;
    }
  }

  static final class Board {
    final TreeMap<Integer, Piece> pieces = new TreeMap<>();
    final TreeMap<Integer, Integer> levers = new TreeMap<>();
    final int[][] hoppers = {{1, 0, 0}, {4, 1, 0}, {7, 2, 0}, {10, 3, 0}};
    Set<Integer> stuck = new HashSet<>();

    Board copy() {
      Board other = new Board();
      for (Map.Entry<Integer, Piece> e : pieces.entrySet()) {
        other.pieces.put(e.getKey(), new Piece(e.getValue().kind, e.getValue().size, e.getValue().shows));
      }
      other.levers.putAll(levers);
      for (int i = 0; i < 4; i++) {
        other.hoppers[i] = hoppers[i].clone();
      }
      other.stuck = new HashSet<>(stuck);
      return other;
    }

    boolean hangs(int column, int row) {
      Piece p = column < 0 || column > 12 || row < 0 || row > 11 ? null : pieces.get(13 * row + column);
      return p != null && (p.kind == 4 || p.kind == 8);
    }

    TreeSet<Integer> train(int place) {
      TreeSet<Integer> found = new TreeSet<>();
      gather(place % 13, place / 13, found);
      return found;
    }

    void gather(int column, int row, Set<Integer> found) {
      if (hangs(column, row) && found.add(13 * row + column)) {
        gather(column - 1, row, found);
        gather(column + 1, row, found);
        gather(column, row - 1, found);
        gather(column, row + 1, found);
      }
    }

    int drop(int hopper) {
      int column = hoppers[hopper][0];
      char from = hopper == 0 || hopper == 2 ? 'L' : 'R';
      int row = 0;
      while (row < 12) {
        int place = 13 * row + column;
        Piece p = pieces.get(place);
        if (p != null) {
          char to;
          if (p.kind == 5) {
            return 256 + 16 * row;
          } else if (p.kind == 8) {
            return 512 + 16 * row;
          } else if (p.kind == 1) {
            to = 'L';
          } else if (p.kind == 2) {
            to = 'R';
          } else if (p.kind == 3) {
            to = from == 'L' ? 'R' : 'L';
          } else if (p.kind == 4) {
            to = p.shows == 0 ? 'L' : 'R';
            if (!stuck.contains(place)) {
              for (int other : train(place)) {
                if (pieces.get(other).kind == 4) {
                  pieces.get(other).shows = 1 - pieces.get(other).shows;
                }
              }
            }
          } else if (p.kind == 6) {
            to = hoppers[hopper][1] == p.size ? 'L' : 'R';
          } else if (p.kind == 7) {
            p.shows++;
            to = p.shows == p.size ? 'R' : 'L';
            p.shows = p.shows % p.size;
          } else {
            to = p.shows == 0 ? 'L' : 'R';
            p.shows = from == 'L' ? 1 : 0;
          }
          column += to == 'L' ? -1 : 1;
          from = to == 'L' ? 'R' : 'L';
          if (column < 0 || column > 12) {
            return 768 + 16 * row;
          }
        }
        row++;
      }
      return column;
    }

    String state() {
      StringBuilder b = new StringBuilder();
      for (Piece p : pieces.values()) {
        if (p.moving()) {
          b.append(p.shows);
        }
      }
      return b.toString();
    }

    /** The first GATES of all TRAINS that have one. */
    TreeSet<Integer> firstGates() {
      TreeSet<Integer> firsts = new TreeSet<>();
      for (int place : pieces.keySet()) {
        if (pieces.get(place).kind == 4) {
          for (int other : train(place)) {
            if (pieces.get(other).kind == 4) {
              firsts.add(other);
              break;
            }
          }
        }
      }
      return firsts;
    }
  }

  // ---- programs

  static final List<String> PIECES = List.of("", "left", "right", "cross", "gate", "trap", "sieve", "counter", "cog", "seesaw");
  static final List<String> OTHERS = List.of("put", "again", "by", "mirror", "let", "use", "lane", "hopper");

  static final class Line {
    String act;
    final List<Integer> numbers = new ArrayList<>();
    List<Line> within = new ArrayList<>();
  }

  private List<String> tokens;
  private List<Integer> starts;
  private int at;
  private Map<String, List<Line>> names;

  private void cut(String text) {
    tokens = new ArrayList<>();
    starts = new ArrayList<>();
    Matcher m = Pattern.compile("[a-z]+|[0-9]+|[^ \n]").matcher(text);
    while (m.find()) {
      tokens.add(m.group());
      starts.add(m.start());
    }
    tokens.add("END");
    starts.add(text.length());
    at = 0;
    names = new HashMap<>();
  }

  private RuntimeException wrong(int kind) {
    return new Fault(kind + 16 * starts.get(at));
  }

  private void must(String token) {
    if (!tokens.get(at).equals(token)) {
      throw wrong(1);
    }
    at++;
  }

  private int number(int least, int most) {
    String t = tokens.get(at);
    if (!t.matches("[0-9]{1,3}")) {
      throw wrong(1);
    }
    int n = Integer.parseInt(t);
    if (n < least || n > most) {
      throw wrong(4);
    }
    at++;
    return n;
  }

  private int signed() {
    if (tokens.get(at).equals("-")) {
      at++;
      return -number(0, 12);
    }
    return number(0, 12);
  }

  private String name() {
    String t = tokens.get(at);
    if (!t.matches("[a-z]{1,8}") || PIECES.contains(t) || OTHERS.contains(t)) {
      throw wrong(1);
    }
    return t;
  }

  private List<Line> lines(boolean outside, int nested) {
    List<Line> all = new ArrayList<>();
    while (!tokens.get(at).equals(outside ? "END" : ")")) {
      all.add(line(outside, nested));
    }
    return all;
  }

  private Line line(boolean outside, int nested) {
    Line l = new Line();
    l.act = tokens.get(at);
    if (!List.of("put", "again", "mirror", "let", "use", "lane", "hopper").contains(l.act)) {
      throw wrong(1);
    }
    if (List.of("let", "lane", "hopper").contains(l.act) && !outside) {
      throw wrong(1);
    }
    if (List.of("again", "mirror").contains(l.act) && nested == 4 || l.act.equals("let") && names.size() == 30) {
      throw wrong(5);
    }
    at++;
    if (l.act.equals("put")) {
      int piece = PIECES.indexOf(tokens.get(at));
      if (piece < 1) {
        throw wrong(1);
      }
      at++;
      l.numbers.add(piece);
      l.numbers.add(piece == 4 || piece == 9 ? number(0, 1) : piece == 6 ? number(0, 3) : piece == 7 ? number(2, 9) : 0);
      l.numbers.add(number(0, 12));
      l.numbers.add(number(0, 11));
    } else if (l.act.equals("again")) {
      l.numbers.add(number(1, 12));
      must("by");
      l.numbers.add(signed());
      l.numbers.add(signed());
      block(l, nested + 1);
    } else if (l.act.equals("mirror")) {
      l.numbers.add(number(0, 12));
      block(l, nested + 1);
    } else if (l.act.equals("let")) {
      String name = name();
      if (names.containsKey(name)) {
        throw wrong(3);
      }
      at++;
      block(l, 0);
      must(";");
      at--;
      names.put(name, l.within);
    } else if (l.act.equals("use")) {
      String name = name();
      if (!names.containsKey(name)) {
        throw wrong(2);
      }
      at++;
      l.within = names.get(name);
      must("by");
      l.numbers.add(signed());
      l.numbers.add(signed());
    } else if (l.act.equals("lane")) {
      l.numbers.add(number(0, 12));
      l.numbers.add(number(0, 4));
    } else {
      l.numbers.add(number(0, 3));
      l.numbers.add(number(0, 12));
      l.numbers.add(number(0, 3));
      l.numbers.add(number(0, 999));
    }
    must(";");
    return l;
  }

  private void block(Line l, int nested) {
    must("(");
    l.within = lines(false, nested);
    must(")");
  }

  private int linesDone;
  private int putsDone;

  /** around: the moves and mirrors round the lines, the innermost last: {1, columns, rows} or {2, column}. */
  private void doAll(List<Line> lines, Board on, List<int[]> around) {
    for (Line l : lines) {
      if (++linesDone > 2000) {
        throw new Fault(-4);
      }
      if (l.act.equals("put")) {
        doPut(l, on, around);
      } else if (l.act.equals("again")) {
        for (int k = 0; k < l.numbers.get(0); k++) {
          doAll(l.within, on, plus(around, 1, k * l.numbers.get(1), k * l.numbers.get(2)));
        }
      } else if (l.act.equals("mirror")) {
        doAll(l.within, on, plus(around, 2, l.numbers.get(0), 0));
      } else if (l.act.equals("use")) {
        doAll(l.within, on, plus(around, 1, l.numbers.get(0), l.numbers.get(1)));
      } else if (l.act.equals("lane")) {
        on.levers.remove(l.numbers.get(0));
        if (l.numbers.get(1) < 4) {
          on.levers.put(l.numbers.get(0), l.numbers.get(1));
        }
      } else if (l.act.equals("hopper")) {
        for (int i = 0; i < 3; i++) {
          on.hoppers[l.numbers.get(0)][i] = l.numbers.get(i + 1);
        }
      }
    }
  }

  private static List<int[]> plus(List<int[]> around, int... one) {
    List<int[]> more = new ArrayList<>(around);
    more.add(one);
    return more;
  }

  private void doPut(Line l, Board on, List<int[]> around) {
    int kind = l.numbers.get(0);
    int number = l.numbers.get(1);
    int column = l.numbers.get(2);
    int row = l.numbers.get(3);
    for (int i = around.size() - 1; i >= 0; i--) {
      int[] one = around.get(i);
      if (one[0] == 1) {
        column += one[1];
        row += one[2];
      } else {
        column = 2 * one[1] - column;
        if (kind < 3) {
          kind = 3 - kind;
        }
        if (kind == 4 || kind == 9) {
          number = 1 - number;
        }
      }
    }
    if (column < 0 || column > 12 || row < 0 || row > 11) {
      throw new Fault(-1);
    }
    if (on.pieces.containsKey(13 * row + column)) {
      throw new Fault(-2);
    }
    Piece p = new Piece(kind, number, kind == 4 || kind == 9 ? number : 0);
    if (p.moving() && moving(on) == 16) {
      throw new Fault(-3);
    }
    on.pieces.put(13 * row + column, p);
    putsDone++;
  }

  private static int moving(Board on) {
    int n = 0;
    for (Piece p : on.pieces.values()) {
      n += p.moving() ? 1 : 0;
    }
    return n;
  }

  // ---- the object

  String tape = "";
  Board board = new Board();
  final Deque<Board> past = new ArrayDeque<>();
  final Board[] shelves = new Board[4];
  final List<Integer> log = new ArrayList<>();
  final TreeMap<Integer, Integer> wishes = new TreeMap<>();
  final List<int[]> sights = new ArrayList<>();
  int latestPuts = 0;

  int feed(long... three) {
    for (long eight : three) {
      for (int i = 7; i >= 0; i--) {
        int sign = (int) (eight >> (8 * i) & 0xFF);
        if (tape.length() < 1000 && (sign == 10 || sign > 31 && sign < 127)) {
          tape += (char) sign;
        }
      }
    }
    return tape.length();
  }

  int draw() {
    String text = tape;
    tape = "";
    Board drawn = board.copy();
    try {
      cut(text);
      List<Line> lines = lines(true, 0);
      linesDone = 0;
      putsDone = 0;
      doAll(lines, drawn, new ArrayList<>());
    } catch (Fault f) {
      return f.number;
    }
    past.addLast(board);
    if (past.size() > 20) {
      past.removeFirst();
    }
    board = drawn;
    latestPuts = putsDone;
    return 0;
  }

  boolean takeBack() {
    if (past.isEmpty()) {
      return false;
    }
    board = past.removeLast();
    return true;
  }

  private Piece at(int column, int row) {
    return column < 0 || column > 12 || row < 0 || row > 11 ? null : board.pieces.get(13 * row + column);
  }

  int piece(int column, int row) {
    Piece p = at(column, row);
    boolean place = column >= 0 && column <= 12 && row >= 0 && row <= 11;
    return p != null ? p.kind : place ? 0 : -1;
  }

  int shows(int column, int row) {
    Piece p = at(column, row);
    return p == null ? -1 : p.moving() ? p.shows : p.kind == 6 ? p.size : -1;
  }

  int train(int column, int row) {
    return board.hangs(column, row) ? board.train(13 * row + column).first() : -1;
  }

  int lever(int lane) {
    return board.levers.getOrDefault(lane, -1);
  }

  /** -9: NoSuchElementException. */
  int hopper(int hopper, int what) {
    return hopper < 0 || hopper > 3 || what < 0 || what > 2 ? -9 : board.hoppers[hopper][what];
  }

  int run(int hopper, int n) {
    if (hopper < 0 || hopper > 3 || n < 1 || n > 200) {
      return -1;
    }
    int drops = 0;
    if (board.hoppers[hopper][2] == 0) {
      return 5;
    }
    while (true) {
      board.hoppers[hopper][2]--;
      int how = board.drop(hopper);
      log.add(hopper + 4 * how);
      drops++;
      if (how >= 768) {
        return 4;
      }
      if (how >= 512) {
        return 3;
      }
      if (how >= 256) {
        return 2;
      }
      if (lever(how) < 0) {
        return 1;
      }
      if (drops == n) {
        return 0;
      }
      hopper = lever(how);
      if (board.hoppers[hopper][2] == 0) {
        return 5;
      }
    }
  }

  int logged(int i) {
    return i < 0 || i > 99 || i >= log.size() ? -1 : log.get(log.size() - 1 - i);
  }

  int round(int hopper, int what) {
    if (hopper < 0 || hopper > 3 || what < 0 || what > 1) {
      return -1;
    }
    Board copy = board.copy();
    Map<String, Integer> known = new HashMap<>();
    int next = hopper;
    for (int drops = 0; known.size() <= 4000; drops++) {
      String state = copy.state() + "/" + next;
      if (known.containsKey(state)) {
        return what == 0 ? known.get(state) : drops - known.get(state);
      }
      known.put(state, drops);
      int how = copy.drop(next);
      if (how >= 256 || lever(how) < 0) {
        return -1;
      }
      next = lever(how);
    }
    return -1;
  }

  boolean shelf(int shelf, boolean back) {
    if (shelf < 0 || shelf > 3 || back && shelves[shelf] == null) {
      return false;
    }
    if (back) {
      board = shelves[shelf].copy();
      past.clear();
    } else {
      shelves[shelf] = board.copy();
    }
    return true;
  }

  private boolean held(int shelf) {
    return shelf >= 0 && shelf < 4 && shelves[shelf] != null;
  }

  /** The telling try; "" if alike; null if unknown or no such. */
  String tell(int a, int b) {
    if (!held(a) || !held(b)) {
      return null;
    }
    if (a == b) {
      return "";
    }
    Set<String> known = new HashSet<>();
    Deque<Object[]> queue = new ArrayDeque<>();
    known.add(shelves[a].state() + "/" + shelves[b].state());
    queue.add(new Object[] {shelves[a], shelves[b], ""});
    while (!queue.isEmpty()) {
      Object[] pair = queue.removeFirst();
      for (int h = 0; h < 4; h++) {
        Board one = ((Board) pair[0]).copy();
        Board two = ((Board) pair[1]).copy();
        String path = (String) pair[2] + h;
        if (one.drop(h) != two.drop(h)) {
          return path;
        }
        if (known.add(one.state() + "/" + two.state())) {
          if (known.size() > 3000) {
            return null;
          }
          queue.add(new Object[] {one, two, path});
        }
      }
    }
    return "";
  }

  int alike(int a, int b) {
    String found = tell(a, b);
    return found == null ? -1 : found.length();
  }

  int telling(int a, int b, int i) {
    String found = tell(a, b);
    return found == null || i < 0 || i >= found.length() ? -1 : found.charAt(i) - '0';
  }

  boolean wish(int column, int row, int to) {
    if (column < 0 || column > 12 || row < 0 || row > 11 || to < 0 || to > 2) {
      return false;
    }
    int place = 13 * row + column;
    boolean turns = at(column, row) != null && (at(column, row).kind == 4 || at(column, row).kind == 9);
    if (to == 2) {
      return wishes.remove(place) != null || turns;
    }
    if (!turns || wishes.size() == 12 && !wishes.containsKey(place)) {
      return false;
    }
    wishes.put(place, to);
    return true;
  }

  private boolean fulfilled(Board b) {
    for (int place : wishes.keySet()) {
      if (b.pieces.get(place).shows != wishes.get(place)) {
        return false;
      }
    }
    return true;
  }

  String findWay() {
    for (int place : wishes.keySet()) {
      Piece p = board.pieces.get(place);
      if (p == null || p.kind != 4 && p.kind != 9) {
        return null;
      }
    }
    if (fulfilled(board)) {
      return "";
    }
    Set<String> known = new HashSet<>();
    Deque<Object[]> queue = new ArrayDeque<>();
    known.add(board.state());
    queue.add(new Object[] {board, ""});
    while (!queue.isEmpty()) {
      Object[] one = queue.removeFirst();
      for (int h = 0; h < 4; h++) {
        Board next = ((Board) one[0]).copy();
        next.drop(h);
        String path = (String) one[1] + h;
        if (known.add(next.state())) {
          if (known.size() > 3000) {
            return null;
          }
          if (fulfilled(next)) {
            return path;
          }
          queue.add(new Object[] {next, path});
        }
      }
    }
    return null;
  }

  int way() {
    String found = findWay();
    return found == null ? -1 : found.length();
  }

  int step(int i) {
    String found = findWay();
    return found == null || i < 0 || i >= found.length() ? -1 : found.charAt(i) - '0';
  }

  int sight(int hopper, int how) {
    if (hopper == -1) {
      sights.clear();
      return 0;
    }
    if (hopper < 0 || hopper > 3 || how < 0 || how > 1000 || sights.size() == 60) {
      return -1;
    }
    sights.add(new int[] {hopper, how});
    return sights.size() - 1;
  }

  /** By their numbers, each with its BOARD behind all the SIGHTS. */
  private TreeMap<Integer, Board> suspects(int shelf) {
    TreeMap<Integer, Board> found = new TreeMap<>();
    TreeMap<Integer, Board> all = new TreeMap<>();
    all.put(0, shelves[shelf].copy());
    for (int gate : shelves[shelf].firstGates()) {
      Board b = shelves[shelf].copy();
      b.stuck = b.train(gate);
      all.put(1 + gate, b);
    }
    for (int number : all.keySet()) {
      boolean so = true;
      for (int[] sight : sights) {
        so = so && all.get(number).drop(sight[0]) == sight[1];
      }
      if (so) {
        found.put(number, all.get(number));
      }
    }
    return found;
  }

  int suspect(int shelf, int i) {
    if (!held(shelf)) {
      return -1;
    }
    List<Integer> numbers = new ArrayList<>(suspects(shelf).keySet());
    return i < 0 || i >= numbers.size() ? -1 : numbers.get(i);
  }

  int test(int shelf) {
    if (!held(shelf) || suspects(shelf).isEmpty()) {
      return -1;
    }
    int best = -1;
    int least = 1000;
    for (int h = 0; h < 4; h++) {
      Map<Integer, Integer> groups = new HashMap<>();
      int most = 0;
      for (Board b : suspects(shelf).values()) {
        most = Math.max(most, groups.merge(b.drop(h), 1, Integer::sum));
      }
      if (most < least) {
        least = most;
        best = h;
      }
    }
    return best;
  }

  /** -9: NoSuchElementException. */
  int tries(int hopper) {
    return hopper < 0 || hopper > 3 ? -9 : board.copy().drop(hopper);
  }

  int count(int what) {
    switch (what) {
      case 0: return board.pieces.size();
      case 1: return moving(board);
      case 2: return board.firstGates().size();
      case 3: return log.size();
      case 4: return past.size();
      case 5: return tape.length();
      case 6: return wishes.size();
      case 7: return sights.size();
      case 8: return board.levers.size();
      case 9: return latestPuts;
      default: return -1;
    }
  }
}
