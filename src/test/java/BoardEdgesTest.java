/** Terms 1 and the promises about the BOARD: of each limit the last input within it and the first one beyond it. */
public final class BoardEdgesTest {
  private static final int FAR = Works.FAR;
  private static final int LOW = Works.LOW;
  private static final int CAUGHT = 256;
  private static final int JAMMED = 512;
  private static final int LOST = 768;
  private static final int ROW_11 = 16 * 11;
  /** All 156 PLACES with the PIECE for P. */
  private static final String EVERYWHERE = "again 12 by 0 1(put P 12 0;again 12 by 1 0(put P 0 0;););";

  public static void main(String[] args) {
    newObject();
    places();
    shows();
    trainPlaces();
    trainsHang();
    longTrains();
    lanes();
    hoppers();
    hopperNumbers();
    sixteenMove();
    sides();
    slopesAtTheSides();
    rowsOfEnds();
    crosses();
    gates();
    sieves();
    counters();
    seesaws();
    tries();
    counts();
    fullCounts();
    Works.end("BoardEdgesTest");
  }

  private static void says(String quote) {
    Works.says(quote);
  }

  private static void due(String what, long got, long want) {
    Works.due(what, got, want);
  }

  private static void due(String what, boolean got, boolean want) {
    Works.due(what, got, want);
  }

  private static void newObject() {
    says("`MarbleWorks()`: An empty BOARD, empty SHELVES, no WISH, no SIGHT.");
    MarbleWorks x = new MarbleWorks();
    for (int place = 0; place < 156; place++) {
      due("piece at " + place, x.piece(place % 13, place / 13), 0);
    }
    for (int what = 0; what < 10; what++) {
      due("count(" + what + ")", x.count(what), 0);
    }
    due("shows", x.shows(0, 0) * 100 + x.shows(12, 11), -101);
    due("train", x.train(0, 0) * 100 + x.train(12, 11), -101);
    for (int shelf = 0; shelf < 4; shelf++) {
      due("an empty SHELF to the BOARD", x.shelf(shelf, true), false);
      due("an empty SHELF's SUSPECT", x.suspect(shelf, 0), -1);
      due("an empty SHELF's test", x.test(shelf), -1);
      due("two empty SHELVES", x.alike(shelf, (shelf + 1) % 4), -1);
      due("their TRY", x.telling(shelf, (shelf + 1) % 4, 0), -1);
    }
    due("way without a WISH", x.way(), 0);
    due("its step", x.step(0), -1);
    due("logged", x.logged(0), -1);
    due("takeBack", x.takeBack(), false);
    due("round", x.round(0, 0), -1);
    due("run without STOCK", x.run(0, 1), 5);
    due("the first SIGHT", x.sight(0, 0), 0);
    says("The constants: `NONE = -1`: None.");
    due("NONE", MarbleWorks.NONE, -1);
  }

  private static void places() {
    says("A BOARD has 13 columns (0 to 12) and 12 rows (0 to 11, downwards) of PLACES, each empty or with a PIECE;");
    Works w = new Works().with("put left 0 0;put right 12 0;put cross 0 11;put trap 12 11;put cog 6 6;");
    says("The PIECE at a PLACE: 0 empty, 1 to 9; NONE: no such PLACE.");
    due("left above", w.it.piece(0, 0), 1);
    due("right above", w.it.piece(12, 0), 2);
    due("left below", w.it.piece(0, 11), 3);
    due("right below", w.it.piece(12, 11), 5);
    int[][] empty = {{1, 0}, {11, 0}, {0, 1}, {12, 1}, {0, 10}, {12, 10}, {1, 11}, {11, 11}};
    for (int[] e : empty) {
      due("empty", w.it.piece(e[0], e[1]), 0);
    }
    int[][] none = {{-1, 0}, {13, 0}, {-1, 11}, {13, 11}, {0, -1}, {12, -1}, {0, 12}, {12, 12}, {-1, 1}, {13, 10},
      {LOW, 0}, {FAR, 0}, {0, LOW}, {0, FAR}, {LOW, FAR}, {FAR, LOW}, {-13, 1}, {26, -1}};
    for (int[] n : none) {
      String at = "(" + n[0] + ", " + n[1] + ")";
      due("piece" + at, w.it.piece(n[0], n[1]), -1);
      due("shows" + at, w.it.shows(n[0], n[1]), -1);
      due("train" + at, w.it.train(n[0], n[1]), -1);
      for (int to = 0; to <= 2; to++) {
        due("wish" + at, w.it.wish(n[0], n[1], to), false);
      }
    }
    says("PIECES: 1 LEFT, 2 RIGHT: slopes; 3 CROSS; 4 GATE (shows 0 left, 1 right); 5 TRAP; 6 SIEVE (of a kind 0 to 3); "
        + "7 COUNTER (of 2 to 9; its count 0 at first); 8 COG; 9 SEESAW (shows 0 left, 1 right).");
    Works all = new Works().with("put left 0 0;put right 1 0;put cross 2 0;put gate 0 3 0;put trap 4 0;put sieve 0 5 0;put counter 2 6 0;"
        + "put cog 7 0;put seesaw 0 8 0;");
    for (int i = 0; i < 9; i++) {
      due("the PIECES' numbers", all.it.piece(i, 0), 1 + i);
    }
  }

  private static void shows() {
    says("What a PIECE shows: GATE, SEESAW 0 or 1, COUNTER its count, SIEVE its kind; NONE: no such PLACE, another PIECE, none.");
    Works w = new Works().with("put gate 0 0 0;put gate 1 12 11;put seesaw 0 2 0;put seesaw 1 3 0;put sieve 0 4 0;put sieve 3 5 0;"
        + "put counter 2 6 0;put counter 9 7 0;");
    int[][] want = {{0, 0, 0}, {12, 11, 1}, {2, 0, 0}, {3, 0, 1}, {4, 0, 0}, {5, 0, 3}, {6, 0, 0}, {7, 0, 0}, {8, 0, -1}, {12, 10, -1}};
    for (int[] s : want) {
      due("shows(" + s[0] + ", " + s[1] + ")", w.it.shows(s[0], s[1]), s[2]);
    }
    for (String piece : new String[] {"left", "right", "cross", "trap", "cog"}) {
      due("shows of " + piece, new Works().with("put " + piece + " 5 5;").it.shows(5, 5), -1);
    }
    w.it.takeBack();
    due("none there any more", w.it.shows(0, 0), -1);
  }

  private static void trainPlaces() {
    says("The least PLACE (13 * row + column) of the TRAIN of a GATE or COG; NONE: none such.");
    Works w = new Works().with("put gate 0 0 0;put cog 12 0;put gate 0 0 11;put cog 12 11;put cog 6 6;");
    int[][] want = {{0, 0}, {12, 0}, {0, 11}, {12, 11}, {6, 6}};
    for (int[] t : want) {
      due("train(" + t[0] + ", " + t[1] + ")", w.it.train(t[0], t[1]), 13 * t[1] + t[0]);
    }
    due("empty", w.it.train(1, 0), -1);
    for (String piece : new String[] {"left", "right", "cross", "trap", "sieve 0", "counter 2", "seesaw 0"}) {
      due("train of " + piece, new Works().with("put " + piece + " 5 5;").it.train(5, 5), -1);
    }
  }

  private static void trainsHang() {
    says("GATES and COGS that are neighbours (left, right, above, below) hang together: a TRAIN are all that hang together so, from one to the next.");
    int middle = 13 * 5 + 5;
    int[][] beside = {{4, 5}, {6, 5}, {5, 4}, {5, 6}};
    int[][] apart = {{4, 4}, {6, 4}, {4, 6}, {6, 6}, {3, 5}, {7, 5}, {5, 3}, {5, 7}};
    for (String one : new String[] {"gate 0", "cog"}) {
      for (String other : new String[] {"gate 1", "cog"}) {
        for (int[] b : beside) {
          Works w = new Works().with("put " + one + " 5 5;put " + other + " " + b[0] + " " + b[1] + ";");
          due(one + " beside " + other, w.it.train(5, 5), Math.min(middle, 13 * b[1] + b[0]));
          due(other + " beside " + one, w.it.train(b[0], b[1]), Math.min(middle, 13 * b[1] + b[0]));
        }
        for (int[] a : apart) {
          Works w = new Works().with("put " + one + " 5 5;put " + other + " " + a[0] + " " + a[1] + ";");
          due(one + " apart from " + other, w.it.train(5, 5), middle);
          due(other + " apart from " + one, w.it.train(a[0], a[1]), 13 * a[1] + a[0]);
        }
      }
    }
    Works sides = new Works().with("put gate 0 12 4;put gate 0 0 5;put gate 0 12 0;put gate 0 0 1;put cog 0 11;put cog 12 10;");
    due("not round the side", sides.it.train(0, 5), 13 * 5);
    due("not round the side, above", sides.it.train(0, 1), 13);
    due("not round the side, below", sides.it.train(0, 11), 13 * 11);
    due("TRAINS", sides.it.count(2), 4);
    Works round = new Works().with("put gate 0 0 3;put gate 0 0 4;put cog 12 3;put gate 0 11 7;put gate 0 12 7;put gate 0 0 8;");
    due("not from side to side of a row", round.it.train(12, 3), 13 * 3 + 12);
    due("not round the left side from a second row", round.it.train(0, 4), 13 * 3);
    due("not round the right side", round.it.train(0, 8), 13 * 8);
    due("not from below to above", new Works().with("put gate 0 3 0;put gate 0 3 11;").it.train(3, 11), 13 * 11 + 3);
    Works up = new Works().with("put gate 0 3 5;put cog 3 6;put cog 4 6;put cog 5 6;put gate 0 5 5;");
    due("down, beside and up again", up.it.train(5, 5), 13 * 5 + 3);
    Works back = new Works().with("put gate 0 7 5;put cog 7 6;put cog 6 6;put cog 5 6;put gate 0 5 7;");
    due("down, to the left and down", back.it.train(5, 7), 13 * 5 + 7);
    Works later = new Works().with("put gate 0 3 3;put gate 0 5 3;");
    due("two TRAINS", later.it.train(5, 3), 13 * 3 + 5);
    later.with("put cog 4 3;");
    due("one by a later PROGRAM", later.it.train(5, 3), 13 * 3 + 3);
    later.with("put cog 3 2;");
    due("with another first", later.it.train(5, 3), 13 * 2 + 3);
    later.it.takeBack();
    due("TAKEN BACK", later.it.train(5, 3), 13 * 3 + 3);
    later.it.takeBack();
    due("two TRAINS again", later.it.train(5, 3), 13 * 3 + 5);
    due("nothing between", later.it.train(4, 3), -1);
    due("TRAINS", later.it.count(2), 2);
  }

  private static void longTrains() {
    says("a TRAIN are all that hang together so, from one to the next.");
    Works all = new Works().with(EVERYWHERE.replace("P", "cog"));
    due("156 COGS", all.it.count(0), 156);
    for (int[] t : new int[][] {{0, 0}, {12, 0}, {0, 11}, {12, 11}, {6, 6}}) {
      due("one TRAIN of all PLACES", all.it.train(t[0], t[1]), 0);
    }
    due("TRAINS that have a GATE", all.it.count(2), 0);
    // to and fro over the BOARD: row 0 to the right, down, row 2 to the left, and so on
    Works snake = new Works().with("again 6 by 0 2(again 12 by 1 0(put cog 0 0;);put cog 12 0;);again 3 by 0 4(put cog 12 1;);"
        + "again 2 by 0 4(put cog 0 3;);put gate 0 0 11;");
    due("the end of a long TRAIN", snake.it.train(0, 10), 0);
    due("a GATE at its end", snake.it.train(0, 11), 0);
    snake.it.takeBack();
    Works gap = new Works().with("again 6 by 0 2(again 12 by 1 0(put cog 0 0;);put cog 12 0;);again 2 by 0 4(put cog 12 1;);"
        + "again 2 by 0 4(put cog 0 3;);");
    due("one COG is missing", gap.it.train(0, 10), 13 * 10);
    due("up to it", gap.it.train(12, 8), 0);
  }

  private static void lanes() {
    says("LANES 0 to 12 below row 11;");
    Works w = new Works().with("hopper 0 0 0 9;hopper 1 12 0 9;lane 0 3;lane 12 0;");
    due("LANE 0", w.tries(0), 0);
    due("LANE 12", w.tries(1), 12);
    says("Each LANE has a LEVER of a HOPPER, or none (at first).");
    for (int lane = 1; lane < 12; lane++) {
      due("none at first", w.it.lever(lane), -1);
    }
    says("The LEVER of a LANE: its HOPPER; NONE: none, no such LANE.");
    due("lever(0)", w.it.lever(0), 3);
    due("lever(12)", w.it.lever(12), 0);
    for (int lane : new int[] {-1, 13, LOW, FAR}) {
      due("lever(" + lane + ")", w.it.lever(lane), -1);
    }
    w.with("lane 0 4;");
    due("none any more", w.it.lever(0), -1);
    due("none where none was", w.with("lane 5 4;").it.lever(5), -1);
  }

  private static void hoppers() {
    says("HOPPERS 0 to 3: a column (3 * the HOPPER + 1 at first), a kind of marble (0 to 3; the HOPPER's number at first), "
        + "a STOCK (0 to 999; 0 at first).");
    Works w = new Works();
    for (int hopper = 0; hopper < 4; hopper++) {
      due("column at first", w.hopper(hopper, 0), 3 * hopper + 1);
      due("kind at first", w.hopper(hopper, 1), hopper);
      due("STOCK at first", w.hopper(hopper, 2), 0);
    }
    w.with("hopper 0 0 3 999;hopper 3 12 0 0;");
    int[][] want = {{0, 3, 999}, {4, 1, 0}, {7, 2, 0}, {12, 0, 0}};
    for (int hopper = 0; hopper < 4; hopper++) {
      for (int what = 0; what < 3; what++) {
        due("hopper(" + hopper + ", " + what + ")", w.hopper(hopper, what), want[hopper][what]);
      }
    }
  }

  private static void hopperNumbers() {
    says("Of a HOPPER, what 0: column, 1: kind, 2: STOCK. NoSuchElementException: none such.");
    Works w = new Works();
    int[][] none = {{-1, 0}, {4, 0}, {-1, 2}, {4, 2}, {0, -1}, {0, 3}, {3, -1}, {3, 3}, {LOW, 0}, {FAR, 0}, {0, LOW}, {0, FAR}, {-1, 3}, {4, -1}};
    for (int[] n : none) {
      due("hopper(" + n[0] + ", " + n[1] + ")", w.hopper(n[0], n[1]), Works.THROWN);
    }
    due("hopper(0, 0)", w.hopper(0, 0), 1);
    due("hopper(3, 2)", w.hopper(3, 2), 0);
  }

  private static void sixteenMove() {
    says("GATES, COUNTERS and SEESAWS are MOVING, 16 at most.");
    String[] moving = {"gate 0", "counter 9", "seesaw 1"};
    for (String piece : moving) {
      Works w = new Works();
      w.with("again 12 by 1 0(put " + piece + " 0 0;);again 3 by 1 0(put " + piece + " 0 2;);");
      due("15", w.it.count(1), 15);
      due("the 16th", w.draw("put " + piece + " 4 4;"), 0);
      due("16", w.it.count(1), 16);
      for (String other : moving) {
        due("the 17th", w.draw("put " + other + " 5 5;"), -3);
      }
      due("16 yet", w.it.count(1), 16);
      due("another PIECE", w.draw("put left 0 6;put right 1 6;put cross 2 6;put trap 3 6;put sieve 0 4 6;put cog 5 6;"), 0);
      w.it.takeBack();
      w.it.takeBack();
      due("a 16th again", w.draw("put " + piece + " 5 5;"), 0);
    }
    due("16 and one in one PROGRAM", new Works().draw("again 12 by 1 0(put gate 0 0 0;);again 5 by 1 0(put gate 0 0 2;);"), -3);
  }

  private static void sides() {
    says("A DROP of a HOPPER: a marble of its kind comes to its column in row 0, from the left if the HOPPER is even, else from the right.");
    Works w = new Works().with("again 4 by 3 0(put cross 1 0;);");
    int[] lanes = {2, 3, 8, 9};
    for (int hopper = 0; hopper < 4; hopper++) {
      due("CROSS, HOPPER " + hopper, w.tries(hopper), lanes[hopper]);
    }
    says("Empty: straight down, as if from the side from which it came.");
    Works v = new Works().with("again 4 by 3 0(put cross 1 11;);");
    for (int hopper = 0; hopper < 4; hopper++) {
      due("CROSS in row 11, HOPPER " + hopper, v.tries(hopper), lanes[hopper]);
    }
    Works u = new Works().with("put left 1 0;put cross 0 11;put right 4 0;put cross 5 11;put left 10 0;put cross 9 11;");
    due("from the right by LEFT, then straight down", u.tries(0), LOST + ROW_11);
    due("from the left by RIGHT, then straight down", u.tries(1), 6);
    due("from the right by LEFT", u.tries(3), 8);
  }

  private static void slopesAtTheSides() {
    says("At a PLACE it goes left or right: to the next row, a column less (it comes there from the right) or more (from the left). LEFT, RIGHT: so.");
    Works below = new Works().with("put left 4 0;put trap 3 1;put right 7 0;put cog 8 1;put left 1 5;put trap 0 6;put right 10 10;put trap 11 11;");
    due("left, a row down", below.tries(1), CAUGHT + 16);
    due("right, a row down", below.tries(2), JAMMED + 16);
    due("left from row 5", below.tries(0), CAUGHT + 16 * 6);
    due("right from row 10", below.tries(3), CAUGHT + ROW_11);
    Works beside = new Works().with("put left 4 0;put trap 3 0;put trap 5 1;put right 7 0;put trap 8 0;put trap 6 1;");
    due("not beside, not to the other side", beside.tries(1) * 100 + beside.tries(2), 308);
    says("Beyond column 0 or 12: it is LOST. Below row 11 it LANDS in the LANE of its column.");
    String[] rows = {"0", "11"};
    for (int i = 0; i < 2; i++) {
      String row = rows[i];
      int lost = LOST + 16 * 11 * i;
      Works w = new Works().with("hopper 0 1 0 9;hopper 1 0 0 9;hopper 2 11 0 9;hopper 3 12 0 9;put left 0 " + row + ";put right 12 " + row
          + ";put right 11 " + row + ";put left 1 " + row + ";");
      due("from column 1 to 0", w.tries(0), 0);
      due("beyond column 0", w.tries(1), lost);
      due("from column 11 to 12", w.tries(2), 12);
      due("beyond column 12", w.tries(3), lost);
    }
    String[] left = {"cross", "gate 0", "sieve 1", "counter 2", "seesaw 0"};
    for (String piece : left) {
      Works w = new Works().with("hopper 1 0 1 9;put " + piece + " 0 5;");
      due(piece + " beyond column 0", w.tries(1), LOST + 16 * 5);
    }
    String[] right = {"cross", "gate 1", "sieve 1", "seesaw 1"};
    for (String piece : right) {
      Works w = new Works().with("hopper 2 12 2 9;put " + piece + " 12 5;");
      due(piece + " beyond column 12", w.tries(2), LOST + 16 * 5);
    }
    Works c = new Works().with("hopper 2 12 2 9;put counter 2 12 5;");
    due("COUNTER, not full", c.tries(2), 11);
    due("one DROP", c.it.run(2, 1), 1);
    due("COUNTER, full, beyond column 12", c.tries(2), LOST + 16 * 5);
    Works g = new Works().with("hopper 1 0 1 9;put gate 0 0 5;");
    due("LOST", g.it.run(1, 1), 4);
    due("but the GATE flipped", g.it.shows(0, 5), 1);
    Works ways = new Works().with("hopper 0 12 0 9;again 12 by -1 1(put left 12 0;);");
    due("12 rows to the left", ways.tries(0), 0);
    due("12 rows to the right", new Works().with("hopper 0 0 0 9;again 12 by 1 1(put right 0 0;);").tries(0), 12);
    due("from one column less", new Works().with("hopper 0 11 0 9;again 12 by -1 1(put left 11 0;);").tries(0), LOST + ROW_11);
  }

  private static void rowsOfEnds() {
    says("TRAP: it is CAUGHT. COG: it JAMS.");
    due("TRAP", new Works().with("put trap 1 6;").tries(0), CAUGHT + 16 * 6);
    due("COG", new Works().with("put cog 1 6;").tries(0), JAMMED + 16 * 6);
    says("HOW a DROP ended, as a number: LANDED: the LANE; else 16 * the row of the last PLACE (whose PIECE sent it, caught it, jammed it) "
        + "+ 256 CAUGHT, 512 JAMMED, 768 LOST.");
    for (int row = 0; row < 12; row++) {
      Works w = new Works().with("put trap 1 " + row + ";put cog 4 " + row + ";hopper 2 0 0 0;put left 0 " + row + ";");
      due("CAUGHT in row " + row, w.tries(0), CAUGHT + 16 * row);
      due("JAMMED in row " + row, w.tries(1), JAMMED + 16 * row);
      due("LOST in row " + row, w.tries(2), LOST + 16 * row);
    }
    Works first = new Works().with("put trap 1 3;put cog 1 7;put cog 4 3;put trap 4 7;");
    due("the first below", first.tries(0), CAUGHT + 48);
    due("the first below", first.tries(1), JAMMED + 48);
    Works lanes = new Works();
    for (int column = 0; column < 13; column++) {
      due("LANE", lanes.with("hopper 0 " + column + " 0 0;").tries(0), column);
    }
  }

  private static void crosses() {
    says("CROSS: right if it came from the left, else left.");
    Works w = new Works().with("put cross 1 0;put cross 2 1;put cross 3 2;put cross 10 0;put cross 9 1;put cross 8 2;");
    due("it goes on to the right", w.tries(0), 4);
    due("it goes on to the left", w.tries(3), 7);
  }

  private static void gates() {
    says("GATE: to the side that it shows; then all GATES of its TRAIN show the other side.");
    Works w = new Works().with("put gate 0 1 0;put gate 1 4 0;hopper 0 1 0 9;hopper 1 4 0 9;");
    int[] lefts = {0, 2, 0};
    int[] rights = {5, 3, 5};
    for (int i = 0; i < 3; i++) {
      due("a GATE that showed left", w.tries(0), lefts[i]);
      due("a GATE that showed right", w.tries(1), rights[i]);
      due("DROPS", w.run(0, 1) + w.run(1, 1), 2);
      due("left flips", w.it.shows(1, 0), 1 - i % 2);
      due("right flips", w.it.shows(4, 0), i % 2);
    }
    Works t = new Works().with("put gate 0 0 0;put gate 1 1 0;put cog 2 0;put gate 0 3 0;put gate 1 5 0;put seesaw 0 1 1;put counter 2 0 1;hopper 0 1 0 9;");
    t.run(0, 1);
    due("all GATES of the TRAIN", t.it.shows(0, 0) * 100 + t.it.shows(1, 0) * 10 + t.it.shows(3, 0), 101);
    due("one of another TRAIN, a SEESAW, a COUNTER do not", t.it.shows(5, 0) * 100 + t.it.shows(1, 1) * 10 + t.it.shows(0, 1), 100);
    Works all = new Works().with("again 4 by 1 0(again 4 by 0 1(put gate 0 0 0;););hopper 0 0 0 9;");
    due("LOST", all.it.run(0, 1), 4);
    for (int i = 0; i < 16; i++) {
      due("16 GATES of one TRAIN", all.it.shows(i % 4, i / 4), 1);
    }
  }

  private static void sieves() {
    says("SIEVE: left if it is of its kind, else right.");
    for (int kind = 0; kind < 4; kind++) {
      Works w = new Works().with("again 4 by 3 0(put sieve " + kind + " 1 0;);");
      for (int hopper = 0; hopper < 4; hopper++) {
        due("SIEVE of " + kind + ", HOPPER " + hopper, w.tries(hopper), 3 * hopper + 1 + (hopper == kind ? -1 : 1));
      }
    }
  }

  private static void counters() {
    says("COUNTER of n: its count is 1 more; if it is n then, it goes right, and the count is 0; else left.");
    for (int n = 2; n <= 9; n++) {
      Works w = new Works().with("put counter " + n + " 1 0;hopper 0 1 0 99;");
      for (int i = 1; i <= 2 * n; i++) {
        due("COUNTER of " + n, w.tries(0), i % n == 0 ? 2 : 0);
        w.run(0, 1);
        due("its count", w.it.shows(1, 0), i % n);
      }
    }
  }

  private static void seesaws() {
    says("SEESAW: to the side that it shows; then it shows right if the marble came from the left, else left.");
    Works w = new Works().with("put seesaw 0 5 5;hopper 0 5 0 9;hopper 1 5 0 9;");
    int[] hoppers = {1, 0, 0, 1, 1, 0, 1, 0};
    int[] lanes = {4, 4, 6, 6, 4, 4, 6, 4};
    for (int i = 0; i < hoppers.length; i++) {
      due("SEESAW, DROP " + i, w.tries(hoppers[i]), lanes[i]);
      w.run(hoppers[i], 1);
      due("it shows", w.it.shows(5, 5), 1 - hoppers[i]);
    }
    Works v = new Works().with("put left 5 0;put seesaw 0 4 1;put right 7 0;put seesaw 1 8 1;hopper 0 5 0 9;hopper 1 7 0 9;");
    v.run(0, 1);
    v.run(1, 1);
    due("by LEFT it came from the right", v.it.shows(4, 1), 0);
    due("by RIGHT it came from the left", v.it.shows(8, 1), 1);
  }

  private static void tries() {
    says("How a DROP of a HOPPER would end now (nothing is dropped): HOW. NoSuchElementException: no such HOPPER.");
    Works w = new Works().with("put gate 0 1 0;put counter 2 10 0;put seesaw 1 4 0;");
    for (int i = 0; i < 2; i++) {
      due("HOPPER 0", w.tries(0), 0);
      due("HOPPER 1", w.tries(1), 5);
      due("HOPPER 3", w.tries(3), 9);
    }
    due("nothing moved", w.it.shows(1, 0) * 100 + w.it.shows(10, 0) * 10 + w.it.shows(4, 0), 1);
    due("no DROP", w.it.count(3), 0);
    due("nothing in THE LOG", w.it.logged(0), -1);
    for (int hopper : new int[] {-1, 4, LOW, FAR}) {
      due("tries(" + hopper + ")", w.tries(hopper), Works.THROWN);
    }
    Works twice = new Works().with("put gate 0 0 1;put gate 0 1 0;put cog 0 0;put gate 1 4 0;put gate 1 5 1;put cog 5 0;");
    due("a GATE that the one ahead of it flips, to the right", twice.tries(0), 1);
    due("a GATE that the one ahead of it flips, to the left", twice.tries(1), 4);
    due("nothing flipped", twice.it.shows(0, 1) * 10 + twice.it.shows(5, 1), 1);
  }

  private static void counts() {
    says("NONE for another what.");
    MarbleWorks x = new MarbleWorks();
    for (int what : new int[] {-1, 10, LOW, FAR, 11, 256}) {
      due("count(" + what + ")", x.count(what), -1);
    }
    due("count(9)", x.count(9), 0);
    says("9: puts of the latest PROGRAM that was done.");
    Works w = new Works().with("again 12 by 1 0(put cog 0 0;);put cog 12 0;");
    due("13 puts", w.it.count(9), 13);
    due("a FAULT", w.draw("put cog 0 1;put"), Works.fault(1, 15));
    due("a REASON", w.draw("put cog 0 1;put cog 0 0;"), -2);
    due("13 yet", w.it.count(9), 13);
    w.with("lane 0 0;");
    due("none", w.it.count(9), 0);
    w.with("put cog 0 1;");
    w.it.shelf(0, false);
    w.it.takeBack();
    w.it.shelf(0, true);
    due("1", w.it.count(9), 1);
    w.with("let a(put cog 0 5;);");
    due("a put that is not used is not done", w.it.count(9), 0);
    due("2: TRAINS that have a GATE", new Works().with("put gate 0 0 0;put cog 2 0;put cog 4 0;put gate 0 4 1;put gate 0 5 1;").it.count(2), 2);
  }

  private static void fullCounts() {
    says("`int count(int what)`: What 0: PIECES, 1: MOVING ones, 2: TRAINS that have a GATE, 3: DROPS in all, 4: PROGRAMS that can be TAKEN BACK, "
        + "5: signs on the TAPE, 6: WISHES, 7: SIGHTS, 8: LEVERS,");
    Works all = new Works().with(EVERYWHERE.replace("P", "trap"));
    due("all PLACES", all.it.count(0), 156);
    due("none MOVES", all.it.count(1), 0);
    due("puts", all.it.count(9), 156);
    due("a 157th", all.draw("put cog 6 6;"), -2);
    Works w = new Works().with("again 4 by 2 0(again 4 by 0 2(put gate 0 0 0;););lane 0 0;lane 1 0;lane 2 0;lane 3 0;lane 4 0;lane 5 0;lane 6 0;"
        + "lane 7 0;lane 8 0;lane 9 0;lane 10 0;lane 11 0;lane 12 0;hopper 0 12 0 999;");
    due("16 MOVING ones", w.it.count(1), 16);
    due("16 TRAINS", w.it.count(2), 16);
    due("13 LEVERS", w.it.count(8), 13);
    for (int i = 0; i < 5; i++) {
      due("DROPS", w.it.count(3), 200 * i);
      w.it.run(0, 200);
    }
    due("999 DROPS, then none", w.it.count(3), 999);
    w.with("lane 12 4;lane 12 4;");
    due("12 LEVERS", w.it.count(8), 12);
    w.it.takeBack();
    due("13 again", w.it.count(8), 13);
    due("DROPS stay", w.it.count(3), 999);
    w.it.takeBack();
    due("no PIECE", w.it.count(0) + w.it.count(1) + w.it.count(2) + w.it.count(8), 0);
    due("DROPS stay", w.it.count(3), 999);
  }
}
