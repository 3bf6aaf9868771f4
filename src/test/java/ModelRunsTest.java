import java.util.ArrayList;
import java.util.List;
import java.util.NoSuchElementException;
import java.util.Random;

/** Runs of calls by chance (from fixed seeds) on MarbleWorks and on the Model: each answer must be the same. */
public final class ModelRunsTest {
  private final Random random;
  private final int seed;
  private final MarbleWorks works = new MarbleWorks();
  private final Model model = new Model();
  private final List<String> told = new ArrayList<>();
  private static final int[] SEEN = new int[64];

  private ModelRunsTest(int seed) {
    this.seed = seed;
    random = new Random(seed * 7919L + 17);
  }

  public static void main(String[] args) {
    int from = args.length > 0 ? Integer.parseInt(args[0]) : 0;
    int to = args.length > 1 ? Integer.parseInt(args[1]) : 1500;
    for (int seed = from; seed < to; seed++) {
      new ModelRunsTest(seed).go();
    }
    if (args.length > 2) {
      System.out.println("kinds of answers that came up: " + java.util.Arrays.toString(SEEN));
    }
    Works.end("ModelRunsTest");
  }

  private int pick(int n) {
    return random.nextInt(n);
  }

  private int near(int least, int most) {
    return pick(12) == 0 ? least - 1 + pick(most - least + 3) : least + pick(most - least + 1);
  }

  private void due(String call, long got, long want) {
    told.add(call + " -> " + want);
    if (got != want) {
      System.out.println("seed " + seed + ":");
      for (String row : told) {
        System.out.println("  " + row);
      }
    }
    Works.due("seed " + seed + ", call " + told.size() + ": " + call, got, want);
  }

  private void due(String call, boolean got, boolean want) {
    due(call, got ? 1 : 0, want ? 1 : 0);
  }

  private void go() {
    int style = pick(4);
    int calls = 40 + pick(120);
    if (style > 0) {
      draw(denseBoard(style));
      draw(leversAndHoppers());
    }
    for (int i = 0; i < calls; i++) {
      call(pick(100));
    }
  }

  private void call(int kind) {
    if (kind < 9) {
      draw(pick(3) == 0 ? denseBoard(1 + pick(3)) : pick(8) == 0 ? longProgram() : program());
    } else if (kind < 12) {
      draw(leversAndHoppers());
    } else if (kind < 15) {
      draw(spoilt(program()));
    } else if (kind < 18) {
      due("takeBack()", works.takeBack(), model.takeBack());
      everyPlace();
    } else if (kind < 20) {
      long a = random.nextLong();
      due("feed(" + a + ")", works.feed(a, 0, ~a), model.feed(a, 0, ~a));
    } else if (kind < 35) {
      int hopper = near(0, 3);
      int n = pick(2) == 0 ? near(1, 200) : 1 + pick(9);
      due("run(" + hopper + ", " + n + ")", works.run(hopper, n), model.run(hopper, n));
      int i = pick(3) == 0 ? near(0, 101) : near(0, 5);
      due("logged(" + i + ")", works.logged(i), model.logged(i));
    } else if (kind < 50) {
      searches(kind);
    } else if (kind < 60) {
      shelves(kind);
    } else if (kind < 72) {
      wishes();
    } else if (kind < 88) {
      sights();
    } else {
      looks();
    }
  }

  private void looks() {
    int hopper = near(0, 3);
    int what = near(0, 2);
    int got;
    try {
      got = works.hopper(hopper, what);
    } catch (NoSuchElementException e) {
      got = -9;
    }
    due("hopper(" + hopper + ", " + what + ")", got, model.hopper(hopper, what));
    try {
      got = works.tries(hopper);
    } catch (NoSuchElementException e) {
      got = -9;
    }
    due("tries(" + hopper + ")", got, model.tries(hopper));
    int count = near(0, 9);
    due("count(" + count + ")", works.count(count), model.count(count));
    int lane = near(0, 12);
    due("lever(" + lane + ")", works.lever(lane), model.lever(lane));
    place(near(0, 12), near(0, 11));
  }

  private void place(int column, int row) {
    String at = "(" + column + ", " + row + ")";
    due("piece" + at, works.piece(column, row), model.piece(column, row));
    due("shows" + at, works.shows(column, row), model.shows(column, row));
    due("train" + at, works.train(column, row), model.train(column, row));
  }

  private void everyPlace() {
    for (int column = 0; column < 13; column++) {
      for (int row = 0; row < 12; row++) {
        if (works.piece(column, row) != model.piece(column, row)
            || works.shows(column, row) != model.shows(column, row)
            || works.train(column, row) != model.train(column, row)) {
          place(column, row);
        }
      }
    }
    for (int what = 0; what < 10; what++) {
      due("count(" + what + ")", works.count(what), model.count(what));
    }
  }

  private void searches(int kind) {
    if (kind < 40) {
      int hopper = near(0, 3);
      due("round(" + hopper + ", 0)", works.round(hopper, 0), model.round(hopper, 0));
      due("round(" + hopper + ", 1)", works.round(hopper, 1), model.round(hopper, 1));
      SEEN[model.round(hopper, 1) < 0 ? 0 : Math.min(9, 1 + model.round(hopper, 1) / 4)]++;
      return;
    }
    int a = near(0, 3);
    int b = near(0, 3);
    String found = model.tell(a, b);
    int length = found == null ? -1 : found.length();
    due("alike(" + a + ", " + b + ")", works.alike(a, b), length);
    if (a >= 0 && b >= 0 && a < 4 && b < 4 && model.shelves[a] != null && model.shelves[b] != null && a != b) {
      SEEN[20 + Math.min(length + 1, 9)]++;
    }
    for (int i = -1; i <= length; i++) {
      due("telling(" + a + ", " + b + ", " + i + ")", works.telling(a, b, i), i < 0 || i >= length ? -1 : found.charAt(i) - '0');
    }
  }

  private void shelves(int kind) {
    int shelf = near(0, 3);
    boolean back = kind < 54;
    due("shelf(" + shelf + ", " + back + ")", works.shelf(shelf, back), model.shelf(shelf, back));
    if (back) {
      everyPlace();
    }
  }

  private void wishes() {
    for (int i = pick(4); i >= 0; i--) {
      int column = near(0, 12);
      int row = near(0, 11);
      for (int look = 0; look < 60 && !turns(column, row) && pick(30) > 0; look++) {
        column = pick(13);
        row = pick(12);
      }
      int to = pick(3) == 0 ? near(0, 2) : pick(2);
      due("wish(" + column + ", " + row + ", " + to + ")", works.wish(column, row, to), model.wish(column, row, to));
    }
    due("count(6)", works.count(6), model.count(6));
    String found = model.findWay();
    int length = found == null ? -1 : found.length();
    SEEN[30 + Math.min(length + 1, 9)]++;
    due("way()", works.way(), length);
    for (int i = -1; i <= length; i++) {
      due("step(" + i + ")", works.step(i), i < 0 || i >= length ? -1 : found.charAt(i) - '0');
    }
  }

  private boolean turns(int column, int row) {
    return model.piece(column, row) == 4 || model.piece(column, row) == 9;
  }

  private void sights() {
    int shelf = near(0, 3);
    if (pick(6) == 0) {
      due("sight(-1)", works.sight(-1, 5), model.sight(-1, 5));
    }
    for (int i = pick(4); i >= 0; i--) {
      int hopper = near(0, 3);
      int how = pick(8) == 0 ? near(0, 1000) : likelyHow(shelf, hopper);
      due("sight(" + hopper + ", " + how + ")", works.sight(hopper, how), model.sight(hopper, how));
    }
    for (int i = -1; i < 19; i++) {
      due("suspect(" + shelf + ", " + i + ")", works.suspect(shelf, i), model.suspect(shelf, i));
    }
    due("test(" + shelf + ")", works.test(shelf), model.test(shelf));
    SEEN[40 + Math.max(0, 1 + model.test(shelf))]++;
  }

  /** How the DROP would end for a suspect that is left, so that sights do not rule out all at once. */
  private int likelyHow(int shelf, int hopper) {
    if (shelf < 0 || shelf > 3 || hopper < 0 || hopper > 3 || model.shelves[shelf] == null) {
      return pick(13);
    }
    Model.Board board = model.shelves[shelf].copy();
    List<Integer> gates = new ArrayList<>(board.firstGates());
    if (!gates.isEmpty() && pick(2) == 0) {
      board.stuck = board.train(gates.get(pick(gates.size())));
    }
    for (int[] sight : model.sights) {
      board.drop(sight[0]);
    }
    return board.drop(hopper);
  }

  // ---- programs

  private void draw(String text) {
    for (int at = 0; at < text.length(); at += 24) {
      long[] t = Works.packed(text.substring(at, Math.min(at + 24, text.length())));
      due("feed " + text.substring(at, Math.min(at + 24, text.length())), works.feed(t[0], t[1], t[2]), model.feed(t));
    }
    int answer = model.draw();
    SEEN[answer < 0 ? 50 - answer : answer == 0 ? 50 : 54 + answer % 16]++;
    due("draw()", works.draw(), answer);
    if (answer <= 0) {
      everyPlace();
    }
  }

  private String denseBoard(int style) {
    StringBuilder b = new StringBuilder();
    int pieces = 3 + pick(40);
    for (int i = 0; i < pieces && b.length() < 970; i++) {
      int column = pick(13);
      int row = pick(pick(3) == 0 ? 12 : 4);
      if (model.piece(column, row) != 0 && pick(40) > 0) {
        continue;
      }
      b.append("put ").append(onePiece(style)).append(' ').append(column).append(' ').append(row).append(';');
    }
    return pick(3) > 0 ? withoutTwice(b.toString()) : b.toString();
  }

  private String withoutTwice(String text) {
    StringBuilder b = new StringBuilder();
    List<String> places = new ArrayList<>();
    int moving = model.count(1);
    for (String line : text.split(";")) {
      String[] words = line.split(" ");
      if (words.length < 4) {
        continue;
      }
      String place = words[words.length - 2] + " " + words[words.length - 1];
      boolean moves = line.contains("gate") || line.contains("counter") || line.contains("seesaw");
      if (!places.contains(place) && !(moves && moving == 16)) {
        places.add(place);
        moving += moves ? 1 : 0;
        b.append(line).append(';');
      }
    }
    return b.toString();
  }

  private String onePiece(int style) {
    int kind = style == 1 ? pick(12) : style == 2 ? 3 + pick(12) : 6 + pick(9);
    switch (kind) {
      case 0: return "left";
      case 1: return "right";
      case 2: return pick(3) == 0 ? "trap" : "cross";
      case 3: return "cross";
      case 4: return "cog";
      case 5: return "sieve " + pick(4);
      case 6: case 7: case 8: return "gate " + pick(2);
      case 9: case 10: return "counter " + (2 + pick(8));
      case 11: return "seesaw " + pick(2);
      case 12: return pick(2) == 0 ? "left" : "right";
      case 13: return "cog";
      default: return "gate " + pick(2);
    }
  }

  private String leversAndHoppers() {
    StringBuilder b = new StringBuilder();
    if (pick(2) == 0) {
      for (int lane = 0; lane < 13; lane++) {
        b.append("lane ").append(lane).append(' ').append(pick(40) == 0 ? 4 : pick(4)).append(';');
      }
    }
    for (int i = pick(5); i > 0; i--) {
      b.append("lane ").append(pick(13)).append(' ').append(pick(5)).append(";\n");
    }
    for (int i = pick(5); i > 0; i--) {
      b.append("hopper ").append(pick(4)).append(' ').append(pick(13)).append(' ').append(pick(4)).append(' ');
      b.append(pick(3) == 0 ? pick(5) : pick(1000)).append(" ;");
    }
    return b.toString();
  }

  private static final String[] NAMES = {"a", "b", "pair", "abcdefgh", "byy", "pu", "puts", "z"};
  private final List<String> names = new ArrayList<>();

  private String program() {
    names.clear();
    StringBuilder b = new StringBuilder();
    for (int i = pick(7); i >= 0; i--) {
      line(b, 0, true);
    }
    return b.length() > 990 ? b.substring(0, 990) : b.toString();
  }

  private void line(StringBuilder b, int depth, boolean outside) {
    int kind = pick(10);
    if (kind < 4 || depth > 5) {
      b.append("put ").append(onePiece(1 + pick(3))).append(' ').append(near(0, 12)).append(' ').append(near(0, 11)).append(" ; ");
    } else if (kind < 6) {
      b.append("again ").append(pick(4) == 0 ? near(1, 12) : 1 + pick(3)).append(" by").append(shift()).append(shift());
      within(b, depth);
    } else if (kind < 7) {
      b.append("mirror ").append(near(0, 12));
      within(b, depth);
    } else if (kind < 8 && (outside || pick(30) == 0)) {
      String name = NAMES[pick(NAMES.length)];
      while (names.contains(name) && pick(8) > 0 && names.size() < NAMES.length) {
        name = NAMES[pick(NAMES.length)];
      }
      b.append("let ").append(name);
      within(b, depth);
      names.add(name);
    } else if (kind < 9 && (!names.isEmpty() || pick(20) == 0)) {
      String name = names.isEmpty() ? "a" : names.get(pick(names.size()));
      b.append("use ").append(name).append(" by").append(shift()).append(shift()).append("; ");
    } else if (outside || pick(30) == 0) {
      b.append(leversAndHoppers());
    }
  }

  /** About 2000 LINES, with puts that can or can't be done somewhere among them. */
  private String longProgram() {
    StringBuilder b = new StringBuilder("let n(");
    for (int i = pick(3); i > 0; i--) {
      b.append("mirror ").append(pick(13)).append("();");
    }
    b.append(");");
    for (int i = 0; i < 3; i++) {
      b.append("again ").append(11 + pick(2)).append(" by 0 0(");
      if (pick(3) == 0) {
        b.append("use n by 0 0;");
      }
    }
    b.append(pick(4) == 0 ? "" : "use n by 1 1;").append(");");
    b.append(pick(3) == 0 ? "put cog 3 3;" : "").append(");").append("mirror 2();".repeat(pick(12))).append(");");
    for (int i = pick(5); i > 0; i--) {
      b.append("again ").append(1 + pick(12)).append(" by 0 0(").append("use n by 0 0;".repeat(pick(9))).append(");");
    }
    return b.append("put cog ").append(pick(13)).append(' ').append(pick(12)).append(';').toString();
  }

  private void within(StringBuilder b, int depth) {
    b.append('(');
    for (int i = pick(3) + (depth > 1 ? 0 : 1); i > 0; i--) {
      line(b, depth + 1, false);
    }
    b.append(pick(2) == 0 ? ");" : " ) ; ");
  }

  private String shift() {
    int n = pick(4) == 0 ? near(0, 12) : pick(3);
    n = Math.max(n, 0);
    return pick(3) == 0 ? "-" + n : " " + n;
  }

  private static final String[] SPOILS = {";", "(", ")", "-", "let", "again", "mirror", "put", "use", "by", "lane", "hopper", "1", "13",
    "999", "1000", "0", "gate", "counter", "abcdefghi", "abcdefgh", "Z", "#", " ", "\n", "a", "left", "12", "007", "-1"};

  private String spoilt(String text) {
    StringBuilder b = new StringBuilder(text);
    for (int i = 1 + pick(2); i > 0; i--) {
      int at = pick(b.length() + 1);
      if (pick(2) == 0 && at < b.length()) {
        b.delete(at, Math.min(b.length(), at + 1 + pick(4)));
      } else {
        b.insert(at, SPOILS[pick(SPOILS.length)]);
      }
    }
    return b.toString();
  }
}
