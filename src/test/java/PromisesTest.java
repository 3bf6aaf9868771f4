import java.util.NoSuchElementException;

/** Each promise of the document: ordinary inputs, the edges that it names, wrong inputs. */
public final class PromisesTest {
  private static final int FAR = Integer.MAX_VALUE;
  private static final int LOW = Integer.MIN_VALUE;

  public static void main(String[] args) {
    newObject();
    feed();
    drawDone();
    drawFaults();
    drawFaultsOfNames();
    drawReasons();
    drawMoves();
    takeBack();
    places();
    shows();
    sixteen();
    trains();
    levers();
    hoppers();
    drops();
    runs();
    logged();
    round();
    shelves();
    alike();
    alikeLimits();
    wishes();
    way();
    wayLimits();
    sights();
    suspects();
    bestTest();
    tries();
    counts();
    Works.end("PromisesTest");
  }

  private static void due(String what, long got, long want) {
    Works.due(what, got, want);
  }

  private static void due(String what, boolean got, boolean want) {
    Works.due(what, got, want);
  }

  private static void newObject() {
    MarbleWorks x = new MarbleWorks();
    for (int what = 0; what < 10; what++) {
      due("new count(" + what + ")", x.count(what), 0);
    }
    for (int lane = 0; lane < 13; lane++) {
      due("new lever", x.lever(lane), -1);
      for (int row = 0; row < 12; row++) {
        due("new piece", x.piece(lane, row), 0);
      }
    }
    for (int h = 0; h < 4; h++) {
      due("new column", x.hopper(h, 0), 3 * h + 1);
      due("new kind", x.hopper(h, 1), h);
      due("new stock", x.hopper(h, 2), 0);
      due("new tries", x.tries(h), 3 * h + 1);
      due("new shelf", x.shelf(h, true), false);
      due("new alike", x.alike(h, h), -1);
      due("new suspect", x.suspect(h, 0), -1);
    }
    due("new way", x.way(), 0);
    due("new step", x.step(0), -1);
    due("new logged", x.logged(0), -1);
    due("NONE", MarbleWorks.NONE, -1);
  }

  private static void feed() {
    MarbleWorks x = new MarbleWorks();
    due("feed nothing", x.feed(0, 0, 0), 0);
    due("feed bytes below 0", x.feed(-1, Long.MIN_VALUE, -1), 0);
    due("feed the edges", x.feed(0x0A0B1F207E7F8009L, 0x0D00FF80817F1F09L, 0x0000000000000A41L), 5);
    due("count(5)", x.count(5), 5);
    // what was left: 10, 32, ~, 10, A: the ~ is the first token
    due("draw of the edges", x.draw(), Works.fault(1, 2));
    due("the TAPE is taken", x.count(5), 0);
    Works w = new Works();
    due("1000 signs", w.feed(" ".repeat(990)), 990);
    due("beyond 1000", w.feed(";".repeat(24)), 1000);
    due("full", w.it.feed(Long.MAX_VALUE, 0x3b3b3b3b3b3b3b3bL, 0x3b3b3b3b3b3b3b3bL), 1000);
    due("draw", w.it.draw(), Works.fault(1, 990));
    due("1000 tokens", w.draw(";".repeat(1000)), Works.fault(1, 0));
    due("1000 blanks", w.draw(" ".repeat(1000)), 0);
    due("the end of 1000", w.draw(" ".repeat(997) + "put"), Works.fault(1, 1000));
    w.feed("hopper 0 1");
    due("a TAPE goes on", w.draw("2 3 45;"), 0);
    due("column", w.it.hopper(0, 0), 12);
    // of each number the highest byte first
    due("order", w.it.feed(0x6c616e6520312033L, 0x3b00000000000000L, 0), 9);
    due("draw", w.it.draw(), 0);
    due("lever", w.it.lever(1), 3);
  }

  private static void drawDone() {
    Works w = new Works();
    due("empty", w.draw(""), 0);
    due("blanks", w.draw(" \n \n"), 0);
    due("both count", w.it.count(4), 2);
    due("no blanks", w.draw("put gate1 0 0;put sieve3 1 0;put left2 0;"), 0);
    due("gate", w.it.shows(0, 0), 1);
    due("sieve", w.it.shows(1, 0), 3);
    due("left", w.it.piece(2, 0), 1);
    due("a letter behind a NUMBER", w.draw("again 2by 1 0(put cross 3 0;);"), 0);
    due("puts", w.it.count(9), 2);
    due("many blanks, digits with 0 ahead", w.draw("  put\ncounter 009 012 011 ;\n"), 0);
    due("counter", w.it.piece(12, 11), 7);
    due("SIEVE of 0", w.draw("put sieve 0 9 9;"), 0);
    due("its kind", w.it.shows(9, 9), 0);
    due("all", w.draw("put right 0 1;put trap 1 1;put cog 2 1;put seesaw 0 3 1;put seesaw 1 4 1;"), 0);
    int[] want = {2, 5, 8, 9, 9};
    for (int i = 0; i < 5; i++) {
      due("piece", w.it.piece(i, 1), want[i]);
    }
    due("lane, hopper", w.draw("lane 0 3;lane 12 0;lane 12 4;hopper 3 0 0 999;hopper 0 12 3 0;"), 0);
    due("lever", w.it.lever(0), 3);
    due("no lever", w.it.lever(12), -1);
    due("stock", w.it.hopper(3, 2), 999);
    due("names hold for their PROGRAM alone", w.draw("let a ( ) ;"), 0);
    due("told anew", w.draw("let a ( ) ; use a by -12 -12 ;"), 0);
    due("gone", w.draw("use a by 0 0 ;"), Works.fault(2, 4));
  }

  private static void drawFaults() {
    Works w = new Works();
    String[] texts = {
      "put", "put gate 2 0 0;", "put gate 1 13 0;", "put gate 1 0 12;", "put left 0 0", "put left 0 0 ", "put left 0 0 0;",
      "put sieve 4 0 0;", "put counter 1 0 0;", "put counter 10 0 0;", "put seesaw 2 0 0;", "put left -1 0;", "put put 0 0;",
      "put up 0 0;", "left", "0", ";", ")", "(", "-", "A", "put left 0 0;;", "#put", "putt left 0 0;", "again 0 by 0 0();",
      "again 13 by 0 0();", "again 1 0 0();", "again 1 by 13 0();", "again 1 by 0 - 13();", "again 1 by - - 1 0();",
      "again 1 by 0 0;", "again 1 by 0 0(;", "again 1 by 0 0()", "again 1 by 0 0( ", "mirror 13();", "mirror 0 0();", "mirror 0(",
      "lane 13 0;", "lane 0 5;", "lane 0;", "hopper 4 0 0 0;", "hopper 0 13 0 0;", "hopper 0 0 4 0;", "hopper 0 0 0 1000;",
      "hopper 0 0 0 0(", "mirror 0(lane 0 0;);", "mirror 0(hopper 0 0 0 0;);", "mirror 0(let a(););", "let a(lane 0 0;);",
      "put left 0001 0;", "put abcdefghi 0 0;", "hopper 0 0 0 9999;", "put left 1 1;x", "mirror 0();)", "by", "again by", "use by",
    };
    int[] kinds = {
      1, 4, 4, 4, 1, 1, 1,
      4, 4, 4, 4, 1, 1,
      1, 1, 1, 1, 1, 1, 1, 1, 1, 1, 1, 4,
      4, 1, 4, 4, 1,
      1, 1, 1, 1, 4, 1, 1,
      4, 4, 1, 4, 4, 4, 1,
      1, 1, 1, 1, 1,
      1, 1, 1, 1, 1, 1, 1, 1,
    };
    int[] at = {
      3, 9, 11, 13, 12, 13, 13,
      10, 12, 12, 11, 9, 4,
      4, 0, 0, 0, 0, 0, 0, 0, 13, 0, 0, 6,
      6, 8, 11, 15, 13,
      14, 15, 16, 16, 7, 9, 9,
      5, 7, 6, 7, 9, 11, 13,
      14, 9, 9, 9, 6,
      9, 4, 13, 13, 11, 0, 6, 4,
    };
    for (int i = 0; i < texts.length; i++) {
      due("FAULT of " + texts[i], w.draw(texts[i]), Works.fault(kinds[i], at[i]));
    }
    due("a TAPE of digits", w.draw("9".repeat(24)), Works.fault(1, 0));
    due("then a shorter one", w.draw("put left 0 0"), Works.fault(1, 12));
    due("a TAPE of letters", w.draw("x".repeat(24)), Works.fault(1, 0));
    due("then a shorter one", w.draw("put"), Works.fault(1, 3));
    due("a TAPE of blanks, then a shorter one", w.draw(" ".repeat(24)) + w.draw("put"), Works.fault(1, 3));
    w.it.takeBack();
    due("nothing was done", w.it.count(0) + w.it.count(4) + w.it.count(8), 0);
    String four = "again 1 by 0 0(mirror 6(again 1 by 0 0(mirror 6(";
    due("4 within one another", w.draw(four + ");););); "), 0);
    due("5", w.draw(four + "again 1 by 0 0();););););"), Works.fault(5, four.length()));
    due("5, a mirror", w.draw(four + "mirror 1"), Works.fault(5, four.length()));
    due("4 in a let", w.draw("let x(" + four + "););););); use x by 0 0;"), 0);
    due("5 in a let", w.draw("let x(" + four + "mirror"), Works.fault(5, 6 + four.length()));
    due("one behind the other", w.draw("mirror 0();".repeat(20)), 0);
  }

  private static void drawFaultsOfNames() {
    Works w = new Works();
    due("not told", w.draw("use abc by 0 0;"), Works.fault(2, 4));
    due("within its own LINES", w.draw("let a(use a by 0 0;);"), Works.fault(2, 10));
    due("told later", w.draw("use a by 0 0;let a();"), Works.fault(2, 4));
    due("told", w.draw("let a();let b();let a();"), Works.fault(3, 20));
    due("told, wrong behind it", w.draw("let a();let a;"), Works.fault(3, 12));
    due("the first wrong one", w.draw("use a bx 0 0;"), Works.fault(2, 4));
    for (String word : "put again by mirror let use lane hopper left right cross gate trap sieve counter cog seesaw".split(" ")) {
      due("let " + word, w.draw("let " + word + "();"), Works.fault(1, 4));
      due("use " + word, w.draw("use " + word + " by 0 0;"), Works.fault(1, 4));
      due("let x" + word, w.draw("let x" + word + "();"), word.length() < 8 ? 0 : Works.fault(1, 4));
    }
    due("8 letters", w.draw("let abcdefgh();let bbcdefgh();let abcdefg();use abcdefgh by 0 0;"), 0);
    due("9 letters", w.draw("let abcdefghi();"), Works.fault(1, 4));
    due("a NUMBER", w.draw("let 1();"), Works.fault(1, 4));
    due("use at the end", w.draw("use "), Works.fault(1, 4));
    StringBuilder thirty = new StringBuilder();
    for (int i = 0; i < 30; i++) {
      thirty.append("let ").append((char) ('a' + i % 26)).append(i / 26 == 0 ? "" : "x").append("();");
    }
    due("30 NAMES", w.draw(thirty.toString()), 0);
    due("31", w.draw(thirty + "let zz();"), Works.fault(5, thirty.length()));
    due("31, told", w.draw(thirty + "let a();"), Works.fault(5, thirty.length()));
    due("31 within ( )", w.draw(thirty + "mirror 0(let zz();"), Works.fault(1, thirty.length() + 9));
    due("30 are used", w.draw(thirty + "use dx by 0 0;"), 0);
  }

  private static void drawReasons() {
    Works w = new Works().with("put left 5 5;");
    due("off, a column", w.draw("again 2 by 1 0(put left 12 0;);"), -1);
    due("off, a row", w.draw("again 2 by 0 1(put left 0 11;);"), -1);
    due("off, less", w.draw("again 2 by 0 -1(put left 0 0;);"), -1);
    due("off, mirrored", w.draw("mirror 1(put left 3 0;);"), -1);
    due("off the side, not round it", w.draw("again 2 by -1 1(put left 0 0;);"), -1);
    due("taken", w.draw("put left 5 5;"), -2);
    due("taken by itself", w.draw("put cog 1 1;put cog 1 1;"), -2);
    due("all as it was", w.it.count(0), 1);
    due("also LEVERS, HOPPERS", w.draw("lane 3 1;hopper 0 5 3 77;put left 5 5;"), -2);
    due("lever", w.it.lever(3), -1);
    due("stock", w.it.hopper(0, 2), 0);
    due("16 MOVING ones", w.draw("again 8 by 1 0(put gate 0 0 0;put counter 2 0 1;);"), 0);
    due("17th", w.draw("put seesaw 0 0 2;"), -3);
    due("17th, off", w.draw("mirror 0(put seesaw 0 1 2;);"), -1);
    due("17th, taken", w.draw("put seesaw 0 0 0;"), -2);
    due("not MOVING", w.draw("put cog 0 2;"), 0);
    due("the first put that can't", w.draw("put cog 1 2;put gate 0 2 2;put cog 5 5;"), -3);
    due("count(4)", w.it.count(4), 3);
    due("count(9)", w.it.count(9), 1);
    due("count(1)", w.it.count(1), 16);
    // 1 + 1 + 12 + 144 + 1728 LINES, then more
    String most = "let n();again 12 by 0 0(again 12 by 0 0(again 12 by 0 0(use n by 0 0;););)" + ";";
    Works v = new Works().with("put left 0 0;");
    due("1886 LINES", v.draw(most), 0);
    due("2000 LINES", v.draw(most + "again 9 by 0 0(again 11 by 0 0(use n by 0 0;););lane 0 0;lane 0 1;lane 0 2;lane 0 3;lane 0 4;"), 0);
    due("2001 LINES", v.draw(most + "again 9 by 0 0(again 11 by 0 0(use n by 0 0;););lane 0 0;lane 0 1;lane 0 2;lane 0 3;lane 0 4;let x();"), -4);
    due("4 in place of 2", v.draw(most + "again 9 by 0 0(again 11 by 0 0(use n by 0 0;););lane 0 0;lane 0 1;lane 0 2;lane 0 3;lane 0 4;put cog 0 0;"), -4);
    due("2 ahead of 4", v.draw(most + "again 9 by 0 0(again 11 by 0 0(use n by 0 0;););lane 0 0;lane 0 1;lane 0 2;lane 0 3;put cog 0 0;let x();"), -2);
    due("lever", v.it.lever(0), -1);
    due("empty ones are done fast", v.draw("again 12 by 0 0();".repeat(50)), 0);
  }

  private static void drawMoves() {
    Works w = new Works().with("mirror 3(put left 1 0;put right 2 0;put cross 3 0;put sieve 1 4 0;put counter 3 5 0;put gate 0 6 0;)"
        + ";mirror 3(put seesaw 1 0 0;);");
    int[] pieces = {4, 7, 6, 3, 1, 2, 9};
    int[] shown = {1, 0, 1, -1, -1, -1, 0};
    for (int i = 0; i < 7; i++) {
      due("mirrored piece " + i, w.it.piece(i, 0), pieces[i]);
      due("mirrored shows " + i, w.it.shows(i, 0), shown[i]);
    }
    w.with("mirror 6(mirror 5(put left 3 1;););");
    due("mirrored twice", w.it.piece(5, 1), 1);
    w.with("mirror 6(again 2 by 1 0(put left 1 2;););");
    due("moved, then mirrored", w.it.piece(11, 2) * 10 + w.it.piece(10, 2), 22);
    w.with("again 2 by 1 0(mirror 6(put left 1 3;););");
    due("mirrored, then moved", w.it.piece(11, 3) * 10 + w.it.piece(12, 3), 22);
    w.with("let a(put gate 1 0 0;mirror 1(put left 0 1;););let b(use a by 1 1;use a by 4 0;);mirror 6(use b by 2 4;);");
    due("use in use, mirrored", w.it.piece(9, 5), 4);
    due("its side", w.it.shows(9, 5), 0);
    due("mirrored twice", w.it.piece(7, 6), 1);
    due("the second", w.it.piece(6, 4), 4);
    due("the second's", w.it.piece(4, 5), 1);
    w.with("again 3 by 2 0(again 2 by -1 1(put trap 1 10;););");
    for (int i = 0; i < 3; i++) {
      due("again in again", w.it.piece(1 + 2 * i, 10) * 10 + w.it.piece(2 * i, 11), 55);
    }
    due("by way of a place off the BOARD", w.draw("again 1 by 0 0(mirror 12(mirror 0(put cog 0 7;);););"), -1);
    due("and back", w.draw("mirror 6(mirror 0(mirror 0(put cog 1 8;);););"), 0);
    due("there", w.it.piece(11, 8), 8);
    StringBuilder chain = new StringBuilder("let a(put cog 0 9;);");
    for (int i = 1; i < 30; i++) {
      chain.append("let ").append(name(i)).append("(use ").append(name(i - 1)).append(" by 0 0;);");
    }
    due("30 NAMES that use one another", w.draw(chain + "use " + name(29) + " by 12 0;"), 0);
    due("there", w.it.piece(12, 9), 8);
  }

  private static String name(int i) {
    return i < 26 ? "" + (char) ('a' + i) : "z" + (char) ('a' + i - 26);
  }

  private static void takeBack() {
    Works w = new Works();
    due("none", w.it.takeBack(), false);
    w.with("put gate 0 1 0;lane 0 0;lane 2 0;hopper 0 1 0 9;");
    due("run", w.it.run(0, 3), 0);
    w.with("hopper 0 5 3 1;lane 0 4;put cog 0 5;");
    due("run", w.it.run(0, 1), 1);
    due("a FAULT", w.draw("x"), 1);
    due("a REASON", w.draw("put cog 0 5;"), -2);
    due("takeBack", w.it.takeBack(), true);
    due("shows", w.it.shows(1, 0), 1);
    due("cog", w.it.piece(0, 5), 0);
    due("train", w.it.train(0, 5), -1);
    due("stock", w.it.hopper(0, 2), 6);
    due("column", w.it.hopper(0, 0), 1);
    due("kind", w.it.hopper(0, 1), 0);
    due("lever", w.it.lever(0), 0);
    due("drops stay", w.it.count(3), 4);
    due("takeBack", w.it.takeBack(), true);
    due("all gone", w.it.count(0) + w.it.count(1) + w.it.count(8) + w.it.hopper(0, 2), 0);
    due("none left", w.it.takeBack(), false);
    for (int i = 0; i < 25; i++) {
      w.with("put cog " + i % 13 + " " + i / 13 + ";");
      due("count(4)", w.it.count(4), Math.min(i + 1, 20));
    }
    due("a REASON takes none of the 20", w.draw("put cog 0 0;"), -2);
    for (int i = 24; i >= 5; i--) {
      due("takeBack", w.it.takeBack(), true);
      due("pieces", w.it.count(0), i);
    }
    due("the oldest can't", w.it.takeBack(), false);
    due("pieces", w.it.count(0), 5);
    due("count(4)", w.it.count(4), 0);
  }

  private static void places() {
    Works w = new Works().with("put trap 0 0;put cog 12 11;");
    due("piece", w.it.piece(0, 0), 5);
    due("piece", w.it.piece(12, 11), 8);
    due("empty", w.it.piece(12, 10), 0);
    int[][] none = {{-1, 0}, {13, 0}, {0, -1}, {0, 12}, {FAR, 0}, {0, FAR}, {LOW, LOW}, {-13, 1}};
    for (int[] n : none) {
      due("no such piece", w.it.piece(n[0], n[1]), -1);
      due("no such shows", w.it.shows(n[0], n[1]), -1);
      due("no such train", w.it.train(n[0], n[1]), -1);
      due("no such wish", w.it.wish(n[0], n[1], 0), false);
    }
  }

  private static void shows() {
    Works w = new Works().with("put gate 1 0 0;put seesaw 1 1 0;put counter 9 2 0;put sieve 3 3 0;put left 4 0;put cog 5 0;put trap 6 0;"
        + "put gate 0 7 0;put seesaw 0 8 0;hopper 0 2 0 99;");
    int[] want = {1, 1, 0, 3, -1, -1, -1, 0, 0, -1};
    for (int i = 0; i < want.length; i++) {
      due("shows " + i, w.it.shows(i, 0), want[i]);
    }
    for (int i = 1; i < 20; i++) {
      w.it.run(0, 1);
      due("counter", w.it.shows(2, 0), i % 9);
    }
  }

  /** Each of 16 that MOVE keeps what it shows to itself. */
  private static void sixteen() {
    Works w = new Works().with("put counter 9 12 1;put counter 9 12 2;again 12 by 1 0(put counter 9 0 0;);put counter 9 12 0;put counter 9 12 3;");
    for (int column = 12; column >= 0; column--) {
      w.with("hopper 0 " + column + " 0 9;");
      for (int i = 0; i <= column % 8; i++) {
        w.it.run(0, 1);
      }
    }
    for (int column = 0; column < 13; column++) {
      due("COUNTER " + column, w.it.shows(column, 0), column % 8 + 1);
    }
    due("COUNTERS where none came", w.it.shows(12, 1) + w.it.shows(12, 2) + w.it.shows(12, 3), 0);
    Works g = new Works().with("again 4 by 2 0(again 2 by 0 2(put gate 1 0 0;put seesaw 0 0 1;););");
    for (int i = 0; i < 16; i++) {
      due("GATES and SEESAWS", g.it.shows(i / 4 * 2, i % 4), 1 - i % 2);
    }
  }

  private static void trains() {
    Works w = new Works().with("put gate 0 5 5;put cog 5 6;put gate 1 4 6;put cog 3 6;put gate 0 3 7;put gate 0 12 3;put gate 0 0 4;put cog 7 7;"
        + "put seesaw 0 5 4;put gate 0 5 3;put counter 2 6 5;put gate 0 7 5;");
    due("least", w.it.train(3, 7), 13 * 5 + 5);
    due("a COG's", w.it.train(3, 6), 13 * 5 + 5);
    due("its own", w.it.train(5, 5), 13 * 5 + 5);
    due("not round the side", w.it.train(0, 4), 13 * 4);
    due("not round the side", w.it.train(12, 3), 13 * 3 + 12);
    due("a COG alone", w.it.train(7, 7), 13 * 7 + 7);
    due("a SEESAW", w.it.train(5, 4), -1);
    due("not through a SEESAW", w.it.train(5, 3), 13 * 3 + 5);
    due("not through a COUNTER", w.it.train(7, 5), 13 * 5 + 7);
    due("empty", w.it.train(1, 1), -1);
    due("TRAINS that have a GATE", w.it.count(2), 5);
    w.with("put cog 6 6;put cog 7 6;");
    due("one now", w.it.train(7, 7), 13 * 5 + 5);
    due("the GATE too", w.it.train(7, 5), 13 * 5 + 5);
    due("TRAINS", w.it.count(2), 4);
    w.it.takeBack();
    due("two again", w.it.train(7, 5), 13 * 5 + 7);
    Works v = new Works().with("put gate 0 0 0;put gate 0 0 3;put gate 0 0 4;put gate 0 12 3;put gate 0 5 3;put gate 0 5 4;put gate 0 4 4;"
        + "put gate 0 1 7;put gate 0 1 8;put gate 0 0 8;put gate 0 11 8;put gate 0 12 8;");
    due("the first PLACE", v.it.train(0, 0), 0);
    due("not round the side", v.it.train(12, 3), 13 * 3 + 12);
    due("to the left, below", v.it.train(4, 4), 13 * 3 + 5);
    due("to column 0", v.it.train(0, 8), 13 * 7 + 1);
    due("to column 12", v.it.train(12, 8), 13 * 8 + 11);
    due("TRAINS", v.it.count(2), 6);
  }

  private static void levers() {
    Works w = new Works().with("lane 0 0;lane 12 3;lane 5 2;lane 5 1;lane 6 2;lane 6 4;");
    due("lever", w.it.lever(0), 0);
    due("lever", w.it.lever(12), 3);
    due("the latest", w.it.lever(5), 1);
    due("none any more", w.it.lever(6), -1);
    due("none", w.it.lever(1), -1);
    for (int lane : new int[] {-1, 13, FAR, LOW}) {
      due("no such", w.it.lever(lane), -1);
    }
    due("LEVERS", w.it.count(8), 3);
  }

  private static int thrown(MarbleWorks x, int hopper, int what) {
    try {
      return x.hopper(hopper, what);
    } catch (NoSuchElementException e) {
      return -9;
    }
  }

  private static void hoppers() {
    Works w = new Works().with("hopper 2 12 3 999;hopper 1 0 0 0;");
    due("column", w.it.hopper(2, 0), 12);
    due("kind", w.it.hopper(2, 1), 3);
    due("STOCK", w.it.hopper(2, 2), 999);
    due("column", w.it.hopper(1, 0), 0);
    int[][] none = {{-1, 0}, {4, 0}, {0, -1}, {0, 3}, {FAR, 1}, {1, LOW}, {4, 3}};
    for (int[] n : none) {
      due("none such", thrown(w.it, n[0], n[1]), -9);
    }
  }

  private static void drops() {
    Works w = new Works().with("put cross 1 0;put cross 4 0;put sieve 2 7 0;put sieve 2 10 0;");
    due("CROSS from the left", w.it.tries(0), 2);
    due("CROSS from the right", w.it.tries(1), 3);
    due("SIEVE of its kind", w.it.tries(2), 6);
    due("SIEVE of another", w.it.tries(3), 11);
    w.with("put cross 2 5;put cross 3 6;put right 6 3;put cross 7 4;put left 11 9;put cross 10 10;");
    due("CROSS then CROSS, straight down between", w.it.tries(0), 4);
    due("from the right, straight down", w.it.tries(1), 2);
    due("RIGHT, CROSS", w.it.tries(2), 8);
    due("LEFT, CROSS", w.it.tries(3), 9);
    w.with("put trap 8 11;put cog 9 11;");
    due("CAUGHT in row 11", w.it.tries(2), 256 + 176);
    due("JAMMED in row 11", w.it.tries(3), 512 + 176);
    Works v = new Works().with("hopper 0 0 0 9;hopper 1 12 1 9;hopper 2 0 2 9;put left 0 11;put right 12 0;");
    due("LOST below column 0", v.it.tries(0), 768 + 176);
    due("LOST above 12", v.it.tries(1), 768);
    Works s = new Works().with("put seesaw 0 5 0;hopper 0 5 0 99;hopper 1 5 0 99;put counter 3 9 0;hopper 2 9 0 99;put cog 5 1;");
    due("SEESAW left", s.it.tries(0), 4);
    s.it.run(0, 1);
    due("right now", s.it.shows(5, 0), 1);
    s.it.run(0, 1);
    due("right", s.it.logged(0), 0 + 4 * 6);
    due("still", s.it.shows(5, 0), 1);
    s.it.run(1, 1);
    due("right once more", s.it.logged(0), 1 + 4 * 6);
    due("left now", s.it.shows(5, 0), 0);
    int[] lanes = {8, 8, 10, 8, 8, 10};
    for (int i = 0; i < 6; i++) {
      s.it.run(2, 1);
      due("COUNTER of 3", s.it.logged(0), 2 + 4 * lanes[i]);
      due("its count", s.it.shows(9, 0), (i + 1) % 3);
    }
    Works g = new Works().with("put gate 0 5 0;put gate 1 4 1;put cog 5 1;put gate 0 6 1;put gate 0 0 5;hopper 0 5 0 99;");
    due("GATES of one TRAIN in one DROP", g.it.tries(0), 3);
    g.it.run(0, 1);
    due("the first flipped twice", g.it.shows(5, 0), 0);
    due("the second flipped twice", g.it.shows(4, 1), 1);
    g.with("hopper 1 4 0 9;");
    g.it.run(1, 1);
    due("all flip", g.it.shows(5, 0) * 100 + g.it.shows(4, 1) * 10 + g.it.shows(6, 1), 101);
    due("another TRAIN does not", g.it.shows(0, 5), 0);
    g.it.run(0, 1);
    due("right, then its left", g.it.logged(0), 4 * 5);
  }

  private static void runs() {
    Works w = new Works().with("lane 1 1;lane 4 0;hopper 0 1 0 3;hopper 1 4 1 2;");
    int[][] none = {{-1, 1}, {4, 1}, {0, 0}, {0, -1}, {0, 201}, {FAR, 1}, {0, FAR}, {LOW, LOW}};
    for (int[] n : none) {
      due("no such RUN", w.it.run(n[0], n[1]), -1);
    }
    due("n DROPS", w.it.run(0, 2), 0);
    due("stock", w.it.hopper(0, 2) * 10 + w.it.hopper(1, 2), 21);
    due("out of STOCK", w.it.run(0, 200), 5);
    due("stock", w.it.hopper(0, 2) * 10 + w.it.hopper(1, 2), 0);
    due("drops", w.it.count(3), 5);
    due("ahead of the first", w.it.run(1, 1), 5);
    due("drops", w.it.count(3), 5);
    w.with("hopper 0 1 0 1;");
    due("0 ahead of 5", w.it.run(0, 1), 0);
    w.with("hopper 0 1 0 1;");
    due("5 behind one", w.it.run(0, 2), 5);
    w.with("lane 1 4;hopper 0 1 0 1;");
    due("1 ahead of 0", w.it.run(0, 1), 1);
    w.with("put trap 1 7;put cog 4 7;put left 0 7;hopper 0 1 0 1;hopper 1 4 1 1;hopper 2 0 2 1;");
    due("2 ahead of 0", w.it.run(0, 1), 2);
    due("3 ahead of 0", w.it.run(1, 1), 3);
    due("4 ahead of 0", w.it.run(2, 1), 4);
    w.with("put trap 10 0;hopper 3 10 3 1;lane 10 0;");
    due("CAUGHT in row 0", w.it.run(3, 1), 2);
    Works v = new Works().with("lane 1 0;hopper 0 1 0 999;");
    due("200", v.it.run(0, 200), 0);
    due("stock", v.it.hopper(0, 2), 799);
    due("drops", v.it.count(3), 200);
    Works c = new Works().with("lane 1 1;lane 4 2;put trap 7 3;hopper 0 1 0 9;hopper 1 4 0 9;hopper 2 7 0 9;");
    due("from HOPPER to HOPPER", c.it.run(0, 9), 2);
    due("log", c.it.logged(0), 2 + 4 * (256 + 48));
    due("log", c.it.logged(1), 1 + 4 * 4);
    due("log", c.it.logged(2), 4);
  }

  private static void logged() {
    Works w = new Works().with("put gate 0 1 0;lane 0 0;lane 2 0;hopper 0 1 0 999;hopper 3 9 0 5;");
    due("none", w.it.logged(0), -1);
    due("run", w.it.run(0, 98), 0);
    due("the 98th", w.it.logged(97), 0);
    due("no 99th", w.it.logged(98), -1);
    due("run", w.it.run(3, 1), 1);
    due("latest", w.it.logged(0), 3 + 4 * 9);
    due("run", w.it.run(0, 2), 0);
    due("latest", w.it.logged(0), 8);
    due("ahead", w.it.logged(1), 0);
    due("third", w.it.logged(2), 39);
    due("the 100th is the second", w.it.logged(99), 8);
    due("no 101st", w.it.logged(100), -1);
    due("run", w.it.run(0, 199), 0);
    due("the last 100", w.it.logged(99), 8);
    for (int i : new int[] {-1, 100, FAR, LOW}) {
      due("none such", w.it.logged(i), -1);
    }
    w.it.takeBack();
    due("it stays", w.it.logged(0), 0);
  }

  /** COUNTERS in a chain, the next one counting when the one ahead is full; HOPPER 0 drops into the first. */
  private static String chain(int... sizes) {
    StringBuilder b = new StringBuilder("hopper 1 12 0 0;hopper 2 12 0 0;hopper 3 12 0 0;hopper 0 1 0 999;");
    for (int i = 0; i < sizes.length; i++) {
      b.append("put counter ").append(sizes[i]).append(' ').append(1 + i).append(' ').append(i).append(';');
      b.append("lane ").append(i).append(" 0;");
    }
    return b.append("lane ").append(sizes.length).append(" 0;lane ").append(sizes.length + 1).append(" 0;").toString();
  }

  private static void round() {
    Works w = new Works();
    due("no LEVER", w.it.round(0, 0), -1);
    w.with("lane 1 0;");
    due("nothing moves: LEAD", w.it.round(0, 0), 0);
    due("nothing moves: PERIOD", w.it.round(0, 1), 1);
    due("another HOPPER", w.it.round(1, 1), -1);
    w.with("lane 4 0;");
    due("it leads to the first: LEAD", w.it.round(1, 0), 1);
    due("PERIOD", w.it.round(1, 1), 1);
    int[][] none = {{-1, 0}, {4, 0}, {0, -1}, {0, 2}, {FAR, 0}, {0, LOW}};
    for (int[] n : none) {
      due("no such", w.it.round(n[0], n[1]), -1);
    }
    w.with("put seesaw 0 1 0;lane 0 0;lane 2 0;");
    due("SEESAW: LEAD", w.it.round(0, 0), 1);
    due("SEESAW: PERIOD", w.it.round(0, 1), 1);
    due("in a copy", w.it.shows(1, 0), 0);
    due("nothing dropped", w.it.count(3), 0);
    w.with("hopper 0 1 0 5;");
    w.it.run(0, 1);
    due("from now on: LEAD", w.it.round(0, 0), 0);
    w.with("put trap 2 9;");
    due("CAUGHT", w.it.round(0, 0), -1);
    w.with("put trap 10 0;");
    due("CAUGHT in row 0", w.it.round(3, 0), -1);
    w.it.takeBack();
    w.it.takeBack();
    w.with("put cog 2 9;");
    due("JAMMED", w.it.round(0, 1), -1);
    w.it.takeBack();
    w.with("put right 2 9;put right 3 10;hopper 0 1 0 0;lane 4 4;");
    due("no LEVER there", w.it.round(0, 1), -1);
    w.with("lane 4 2;lane 7 0;");
    due("by way of HOPPER 2", w.it.round(0, 1), 2);
    w.with("lane 4 0;");
    due("again", w.it.round(0, 1), 1);
    Works c = new Works().with(chain(8, 5, 5, 5, 4));
    due("4000 STATES: LEAD", c.it.round(0, 0), 0);
    due("4000 STATES: PERIOD", c.it.round(0, 1), 4000);
    Works d = new Works().with(chain(9, 9, 5, 5, 2) + "hopper 0 3 0 1;put left 2 11;");
    due("50: PERIOD", d.it.round(0, 1), 50);
    Works e = new Works().with(chain(9, 8, 8, 7));
    due("4032 STATES", e.it.round(0, 1), -1);
    // a SEESAW ahead of the chain is left once, then right for ever: one STATE more than the chain has
    int[][] chains = {{5}, {8, 5, 5, 5, 4}, {9, 8, 5, 5, 2}};
    int[] leads = {1, -1, 1};
    int[] periods = {5, -1, 3600};
    for (int i = 0; i < 3; i++) {
      Works l = new Works().with(leadChain(chains[i]));
      due("a SEESAW ahead: LEAD", l.it.round(0, 0), leads[i]);
      due("a SEESAW ahead: PERIOD", l.it.round(0, 1), periods[i]);
    }
  }

  private static String leadChain(int... sizes) {
    StringBuilder b = new StringBuilder("hopper 0 1 0 9;put seesaw 0 1 0;lane 0 0;lane 1 0;");
    for (int i = 0; i < sizes.length; i++) {
      b.append("put counter ").append(sizes[i]).append(' ').append(2 + i).append(' ').append(1 + i).append(';');
      b.append("lane ").append(2 + i).append(" 0;");
    }
    return b.append("lane ").append(2 + sizes.length).append(" 0;").toString();
  }

  private static void shelves() {
    Works w = new Works();
    for (int shelf : new int[] {-1, 4, FAR, LOW}) {
      due("no such", w.it.shelf(shelf, false), false);
      due("no such, back", w.it.shelf(shelf, true), false);
    }
    due("empty, back", w.it.shelf(0, true), false);
    w.with("put gate 0 1 0;lane 0 0;lane 2 0;hopper 0 1 2 9;");
    w.it.run(0, 3);
    due("to a SHELF", w.it.shelf(3, false), true);
    due("can be TAKEN BACK yet", w.it.count(4), 1);
    w.it.run(0, 2);
    w.with("put cog 5 5;lane 0 4;");
    due("back", w.it.shelf(3, true), true);
    due("what moves", w.it.shows(1, 0), 1);
    due("STOCK", w.it.hopper(0, 2), 6);
    due("kind", w.it.hopper(0, 1), 2);
    due("LEVER", w.it.lever(0), 0);
    due("PIECES", w.it.count(0), 1);
    due("no train", w.it.train(5, 5), -1);
    due("nothing can be TAKEN BACK", w.it.count(4), 0);
    due("takeBack", w.it.takeBack(), false);
    due("puts", w.it.count(9), 1);
    w.it.run(0, 1);
    due("a copy", w.it.shelf(3, true), true);
    due("as it was", w.it.shows(1, 0), 1);
    due("another is empty", w.it.shelf(2, true), false);
    w.with("put cog 9 9;");
    due("over the old", w.it.shelf(3, false), true);
    due("takeBack", w.it.takeBack(), true);
    due("back", w.it.shelf(3, true), true);
    due("cog", w.it.piece(9, 9), 8);
  }

  /** Two SHELVES, 0 and 1, with a BOARD each. */
  private static Works two(String one, String other) {
    Works w = new Works().with(one);
    w.it.shelf(0, false);
    w.it.takeBack();
    w.with(other);
    w.it.shelf(1, false);
    return w;
  }

  private static void alike() {
    Works w = two("put gate 0 1 0;", "put counter 2 1 0;");
    due("ALIKE", w.it.alike(0, 1), 0);
    due("no TELLING TRY", w.it.telling(0, 1, 0), -1);
    due("itself", w.it.alike(0, 0), 0);
    due("no TRY of itself", w.it.telling(0, 0, 0), -1);
    int[][] none = {{0, 2}, {2, 0}, {2, 2}, {-1, 0}, {0, 4}, {FAR, LOW}, {-1, -1}};
    for (int[] n : none) {
      due("no such", w.it.alike(n[0], n[1]), -1);
      due("no such", w.it.telling(n[0], n[1], 0), -1);
    }
    due("STOCKS, LEVERS do not count", two("", "lane 1 0;hopper 0 1 0 7;").it.alike(0, 1), 0);
    due("a kind without a SIEVE does not", two("", "hopper 0 1 3 0;").it.alike(0, 1), 0);
    due("a column does", two("", "hopper 0 2 0 0;").it.alike(0, 1), 1);
    due("the row of a TRAP does", two("put trap 1 5;", "put trap 1 6;").it.alike(0, 1), 1);
    due("another column of a TRAP does not", two("put left 1 0;put trap 0 5;", "put right 1 0;put trap 2 5;").it.alike(0, 1), 0);
    Works t = two("put gate 0 4 0;put gate 0 10 0;", "put gate 0 4 0;put gate 1 10 0;");
    due("one", t.it.alike(0, 1), 1);
    due("HOPPER 3", t.it.telling(0, 1, 0), 3);
    Works s = two("put seesaw 0 5 0;hopper 1 5 0 0;hopper 2 5 0 0;hopper 3 12 0 0;put seesaw 0 1 0;hopper 0 12 0 0;",
        "put seesaw 0 5 0;hopper 1 5 0 0;hopper 2 5 0 0;hopper 3 12 0 0;hopper 0 12 0 0;put cog 6 5;");
    due("two", s.it.alike(0, 1), 2);
    due("first", s.it.telling(0, 1, 0), 2);
    due("second: 1 ahead of 2", s.it.telling(0, 1, 1), 1);
    due("behind", s.it.telling(0, 1, 2), -1);
    due("ahead", s.it.telling(0, 1, -1), -1);
    due("far", s.it.telling(0, 1, FAR), -1);
    due("the other way round", s.it.alike(1, 0), 2);
    due("the other way round", s.it.telling(1, 0, 1), 1);
    s.it.shelf(0, false);
    due("a SHELF is filled anew", s.it.alike(0, 1), 0);
    Works m = new Works().with("put gate 0 1 0;hopper 0 1 0 9;");
    m.it.shelf(0, false);
    m.it.run(0, 1);
    m.it.shelf(1, false);
    due("what moves is as it was then", m.it.alike(0, 1), 1);
    m.it.run(0, 1);
    m.it.shelf(1, false);
    due("ALIKE now", m.it.alike(0, 1), 0);
    m.with("put cog 4 0;");
    m.it.shelf(2, false);
    m.with("put trap 7 0;");
    m.it.shelf(3, false);
    int[][] lengths = {{0, 0, 1, 1}, {0, 0, 1, 1}, {1, 1, 0, 1}, {1, 1, 1, 0}};
    int[][] firsts = {{-1, -1, 1, 1}, {-1, -1, 1, 1}, {1, 1, -1, 2}, {1, 1, 2, -1}};
    for (int a = 0; a < 4; a++) {
      for (int b = 0; b < 4; b++) {
        due("alike(" + a + ", " + b + ")", m.it.alike(a, b), lengths[a][b]);
      }
    }
    for (int b = 0; b < 4; b++) {
      for (int a = 0; a < 4; a++) {
        due("telling(" + a + ", " + b + ", 0)", m.it.telling(a, b, 0), firsts[a][b]);
      }
    }
    Works l = two("put counter 3 1 0;put seesaw 0 2 1;hopper 3 2 0 0;", "put counter 3 1 0;put seesaw 0 2 1;hopper 3 2 0 0;put cog 3 2;");
    due("the SEESAW turns when the COUNTER is full", l.it.alike(0, 1), 4);
    due("0 0 0", l.it.telling(0, 1, 0) + l.it.telling(0, 1, 1) + l.it.telling(0, 1, 2), 0);
    due("3", l.it.telling(0, 1, 3), 3);
  }

  private static void alikeLimits() {
    due("3000 pairs", two(chain(8, 5, 5, 5, 3), chain(8, 5, 5, 5, 3)).it.alike(0, 1), 0);
    Works more = two("hopper 1 12 0 0;hopper 2 12 0 0;hopper 3 12 0 0;" + leadChain(8, 5, 5, 5, 3),
        "hopper 1 12 0 0;hopper 2 12 0 0;hopper 3 12 0 0;" + leadChain(8, 5, 5, 5, 3));
    due("3001 pairs", more.it.alike(0, 1), -1);
    due("unknown", more.it.telling(0, 1, 0), -1);
    due("itself always", more.it.alike(0, 0), 0);
    // 3024 in all: behind 24 DROPS, 3000 pairs come up until the last COUNTER is full
    Works w = new Works().with(chain(9, 8, 7, 6));
    w.it.run(0, 23);
    for (int ahead = 23; ahead <= 24; ahead++) {
      w.it.shelf(0, false);
      w.with("put trap 5 11;");
      w.it.shelf(1, false);
      w.it.takeBack();
      due("TELLING TRY of " + (3024 - ahead), w.it.alike(0, 1), ahead == 23 ? -1 : 3000);
      due("its last", w.it.telling(0, 1, 2999), ahead == 23 ? -1 : 0);
      due("behind it", w.it.telling(0, 1, 3000), -1);
      w.it.run(0, 1);
    }
    // HOPPER 1 tells, but HOPPER 0 brings up the pair that is one too many ahead of it
    Works v = new Works().with(chain(9, 8, 7, 6));
    v.it.run(0, 23);
    v.it.shelf(0, false);
    v.with("put cog 12 5;");
    v.it.shelf(1, false);
    due("HOPPER 1 at once", v.it.telling(0, 1, 0), 1);
  }

  private static void wishes() {
    Works w = new Works().with("put gate 0 1 0;put seesaw 0 4 0;put counter 2 7 0;put cog 9 9;put sieve 1 2 2;");
    due("GATE", w.it.wish(1, 0, 1), true);
    due("SEESAW", w.it.wish(4, 0, 0), true);
    due("COUNTER", w.it.wish(7, 0, 1), false);
    due("COG", w.it.wish(9, 9, 0), false);
    due("SIEVE", w.it.wish(2, 2, 1), false);
    due("empty", w.it.wish(12, 0, 1), false);
    due("empty, 2", w.it.wish(12, 0, 2), false);
    due("COUNTER, 2", w.it.wish(7, 0, 2), false);
    for (int to : new int[] {-1, 3, FAR, LOW}) {
      due("another", w.it.wish(1, 0, to), false);
    }
    due("WISHES", w.it.count(6), 2);
    due("anew", w.it.wish(1, 0, 0), true);
    due("WISHES", w.it.count(6), 2);
    due("none any more", w.it.wish(1, 0, 2), true);
    due("WISHES", w.it.count(6), 1);
    due("none there, but a GATE", w.it.wish(1, 0, 2), true);
    due("WISHES", w.it.count(6), 1);
    w.it.takeBack();
    due("WISHES stay", w.it.count(6), 1);
    due("no SEESAW now", w.it.wish(4, 0, 1), false);
    due("but 2", w.it.wish(4, 0, 2), true);
    due("not twice", w.it.wish(4, 0, 2), false);
    due("WISHES", w.it.count(6), 0);
    w.with("again 13 by 1 0(put gate 0 0 11;);".replace("13", "12") + "put gate 0 0 9;");
    for (int i = 0; i < 12; i++) {
      due("12 WISHES", w.it.wish(i, 11, 0), true);
    }
    due("12 are there", w.it.wish(0, 9, 0), false);
    due("one of them anew", w.it.wish(3, 11, 1), true);
    due("none any more", w.it.wish(5, 11, 2), true);
    due("one more now", w.it.wish(0, 9, 1), true);
    due("WISHES", w.it.count(6), 12);
  }

  private static void way() {
    Works w = new Works().with("put gate 0 1 0;put gate 0 4 0;put seesaw 0 7 0;put gate 1 12 5;");
    due("no WISH", w.it.way(), 0);
    w.it.wish(1, 0, 0);
    w.it.wish(12, 5, 1);
    due("they do now", w.it.way(), 0);
    due("no step", w.it.step(0), -1);
    w.it.wish(7, 0, 1);
    w.it.wish(4, 0, 1);
    due("two", w.it.way(), 2);
    due("first", w.it.step(0), 1);
    due("second", w.it.step(1), 2);
    for (int i : new int[] {-1, 2, FAR, LOW}) {
      due("none such", w.it.step(i), -1);
    }
    due("nothing dropped", w.it.count(3) + w.it.shows(7, 0), 0);
    w.with("hopper 1 4 1 9;hopper 2 7 2 9;");
    w.it.run(2, 1);
    due("one now", w.it.way(), 1);
    due("first", w.it.step(0), 1);
    w.it.run(1, 1);
    due("none now", w.it.way(), 0);
    w.it.run(1, 1);
    due("one again", w.it.way(), 1);
    w.it.takeBack();
    due("two again", w.it.way(), 2);
    w.it.wish(12, 5, 0);
    due("never", w.it.way(), -1);
    due("never", w.it.step(0), -1);
    w.it.wish(12, 5, 2);
    due("two again", w.it.way(), 2);
    w.it.shelf(0, false);
    w.it.takeBack();
    due("no GATE any more", w.it.way(), -1);
    w.with("put seesaw 1 1 0;put counter 2 4 0;put seesaw 1 7 0;");
    due("a COUNTER instead", w.it.way(), -1);
    w.it.shelf(0, true);
    due("back", w.it.way(), 2);
    // the first of those as long: both 0 then 3 and 3 then 0 would do
    Works v = new Works().with("put gate 0 1 0;put gate 0 10 0;");
    v.it.wish(10, 0, 1);
    v.it.wish(1, 0, 1);
    due("step ahead of way", v.it.step(0), 0);
    due("two", v.it.way(), 2);
    due("3", v.it.step(1), 3);
    Works o = new Works().with("put gate 1 10 11;put gate 0 1 0;put gate 0 4 0;put gate 0 7 0;");
    o.it.wish(7, 0, 1);
    o.it.wish(1, 0, 1);
    o.it.wish(4, 0, 1);
    due("three, whatever the first GATE shows", o.it.way(), 3);
    due("HOPPERS 0, 1, 2", o.it.step(0) * 100 + o.it.step(1) * 10 + o.it.step(2), 12);
    // a SEESAW shows right behind even HOPPERS, left behind odd ones
    Works s = new Works().with("hopper 0 12 0 0;hopper 3 12 0 0;hopper 1 5 0 0;hopper 2 5 0 0;put seesaw 1 5 0;put gate 0 6 1;put cog 4 1;");
    s.it.wish(6, 1, 1);
    s.it.wish(5, 0, 1);
    due("one, right through the GATE", s.it.way(), 1);
    due("HOPPER 2", s.it.step(0), 2);
    s.it.wish(5, 0, 0);
    due("one", s.it.way(), 1);
    due("HOPPER 1", s.it.step(0), 1);
    s.it.wish(6, 1, 0);
    due("two DROPS through the GATE", s.it.way(), 2);
    due("HOPPERS 2, 1", s.it.step(0) * 10 + s.it.step(1), 21);
  }

  private static void wayLimits() {
    // the GATE flips when the 3024 of the chain are full
    Works w = new Works().with(chain(9, 8, 7, 6) + "put gate 0 5 11;lane 4 0;");
    w.it.wish(5, 11, 1);
    w.it.run(0, 24);
    due("the 3001st STATE shows so", w.it.way(), -1);
    due("unknown", w.it.step(0), -1);
    w.it.run(0, 1);
    due("the 3000th does", w.it.way(), 2999);
    due("first", w.it.step(0), 0);
    due("last", w.it.step(2998), 0);
    due("behind", w.it.step(2999), -1);
    w.it.run(0, 1);
    due("one less", w.it.way(), 2998);
  }

  private static void sights() {
    Works w = new Works();
    for (int[] n : new int[][] {{-2, 0}, {4, 0}, {0, -1}, {0, 1001}, {FAR, 0}, {3, LOW}}) {
      due("no SIGHT", w.it.sight(n[0], n[1]), -1);
    }
    for (int i = 0; i < 60; i++) {
      due("its number", w.it.sight(i % 4, i == 0 ? 1000 : i), i);
      due("SIGHTS", w.it.count(7), i + 1);
    }
    due("60 are told", w.it.sight(0, 0), -1);
    due("forgotten", w.it.sight(-1, -5), 0);
    due("SIGHTS", w.it.count(7), 0);
    due("anew", w.it.sight(3, 0), 0);
    due("forgotten", w.it.sight(-1, 2000), 0);
  }

  private static void suspects() {
    Works w = new Works().with("put gate 0 1 0;put cog 2 0;put gate 0 2 1;put gate 0 7 0;put cog 9 0;put gate 1 10 0;");
    w.it.shelf(2, false);
    w.with("put trap 1 2;");
    int[] want = {0, 2, 8, 11, -1};
    for (int i = 0; i < want.length; i++) {
      due("SUSPECTS", w.it.suspect(2, i), want[i]);
    }
    due("ahead", w.it.suspect(2, -1), -1);
    due("far", w.it.suspect(2, FAR), -1);
    for (int shelf : new int[] {-1, 0, 4, FAR, LOW}) {
      due("no such SHELF", w.it.suspect(shelf, 0), -1);
      due("no such SHELF", w.it.test(shelf), -1);
    }
    w.it.sight(3, 11);
    w.it.sight(3, 11);
    due("the GATE of HOPPER 3 sticks", w.it.suspect(2, 0), 11);
    due("no other", w.it.suspect(2, 1), -1);
    w.it.sight(-1, 0);
    due("SOUND again", w.it.suspect(2, 0), 0);
    w.it.sight(0, 0);
    w.it.sight(0, 1);
    due("SOUND", w.it.suspect(2, 0), 0);
    due("not the first GATE", w.it.suspect(2, 1), 8);
    due("the others", w.it.suspect(2, 2), 11);
    w.it.sight(0, 256 + 32);
    due("none: the TRAP is not on the SHELF", w.it.suspect(2, 0), -1);
    w.it.shelf(2, false);
    due("none: it is on it, from the first on", w.it.suspect(2, 0), -1);
    w.it.sight(-1, 0);
    due("all", w.it.suspect(2, 1), 2);
    w.it.takeBack();
    w.it.takeBack();
    w.it.shelf(2, false);
    due("another BOARD is on it now", w.it.suspect(2, 1), -1);
    // all GATES of the TRAIN stick with it
    Works t = new Works().with("put gate 0 5 0;put gate 1 6 0;hopper 0 5 0 0;hopper 2 6 0 0;");
    t.it.shelf(0, false);
    t.it.sight(0, 4);
    t.it.sight(2, 7);
    due("it sticks", t.it.suspect(0, 0), 6);
    due("one for the TRAIN", t.it.suspect(0, 1), -1);
    // a COG is ahead of the GATES of its TRAIN: the first GATE stands for it
    Works c = new Works().with("put cog 5 5;put gate 0 5 6;put gate 0 4 6;");
    c.it.shelf(1, false);
    due("the first GATE", c.it.suspect(1, 1), 1 + 13 * 6 + 4);
    due("no other", c.it.suspect(1, 2), -1);
    Works m = new Works().with("again 8 by 1 0(again 2 by 0 2(put gate 0 0 0;mirror 6(put cross 0 1;);););".replace("mirror 6(put cross 0 1;);", ""));
    m.it.shelf(0, false);
    due("16 GATES in 2 TRAINS", m.it.suspect(0, 2), 27);
    due("no more", m.it.suspect(0, 3), -1);
    Works a = new Works().with("again 4 by 2 0(again 4 by 0 2(put gate 0 0 0;););");
    a.it.shelf(0, false);
    due("16 TRAINS", a.it.suspect(0, 16), 1 + 13 * 6 + 6);
    due("no more", a.it.suspect(0, 17), -1);
  }

  private static void bestTest() {
    Works w = new Works().with("put gate 0 4 0;put gate 0 7 0;put gate 0 10 0;");
    w.it.shelf(0, false);
    due("all alike by all: the first", w.it.test(0), 0);
    w.it.sight(2, 6);
    due("HOPPER 2 tells one", w.it.test(0), 2);
    w.it.sight(3, 9);
    due("both 2 and 3 tell one: the first", w.it.test(0), 2);
    w.it.sight(2, 8);
    due("3 now", w.it.test(0), 3);
    w.it.sight(3, 9);
    due("one SUSPECT", w.it.suspect(0, 0), 11);
    due("its test", w.it.test(0), 0);
    w.it.sight(1, 4);
    due("no SUSPECT", w.it.test(0), -1);
    // HOPPER 3 comes to the second GATE by way of the first, HOPPER 2 to the second alone
    Works v = new Works().with("put gate 0 10 0;put gate 0 11 1;hopper 2 11 2 0;");
    v.it.shelf(3, false);
    due("all alike", v.it.test(3), 0);
    v.it.sight(2, 10);
    due("2 parts them, 2 and 1", v.it.test(3), 2);
    v.it.sight(3, 9);
    due("3 parts all", v.it.test(3), 3);
    // two GATES of one TRAIN in one DROP: that it sticks shows at once
    Works o = new Works().with("put gate 0 5 0;put cog 4 0;put gate 0 4 1;hopper 2 5 2 0;");
    o.it.shelf(1, false);
    due("at once", o.it.test(1), 2);
    due("none is out", v.it.suspect(3, 2), 1 + 13 + 11);
  }

  private static void tries() {
    Works w = new Works().with("put gate 0 1 0;put counter 2 4 0;");
    for (int i = 0; i < 3; i++) {
      due("tries", w.it.tries(0), 0);
      due("tries", w.it.tries(1), 3);
    }
    due("nothing is dropped", w.it.shows(1, 0) + w.it.shows(4, 0) + w.it.count(3), 0);
    for (int hopper : new int[] {-1, 4, FAR, LOW}) {
      int thrown = 0;
      try {
        w.it.tries(hopper);
      } catch (NoSuchElementException e) {
        thrown = 1;
      }
      due("no such HOPPER", thrown, 1);
    }
    w.with("hopper 0 1 0 1;");
    w.it.run(0, 1);
    due("as it is now, without STOCK", w.it.tries(0), 2);
  }

  private static void counts() {
    Works w = new Works().with("again 2 by 1 0(put gate 0 0 0;);put gate 1 5 5;put seesaw 0 9 9;put left 10 10;put counter 3 12 11;"
        + "hopper 0 3 0 9;lane 3 0;lane 5 2;");
    w.it.run(0, 4);
    w.feed("put left");
    w.it.wish(0, 0, 1);
    w.it.sight(0, 0);
    w.it.sight(0, 0);
    int[] want = {6, 5, 2, 4, 1, 8, 1, 2, 2, 6, -1};
    for (int what = 0; what < want.length; what++) {
      due("count(" + what + ")", w.it.count(what), want[what]);
    }
    due("count(-1)", w.it.count(-1), -1);
    due("count(FAR)", w.it.count(FAR), -1);
    due("count(LOW)", w.it.count(LOW), -1);
    due("a FAULT", w.draw(" 0"), Works.fault(1, 10));
    due("puts stay", w.it.count(9), 6);
    due("a REASON", w.draw("put left 12 0;put left 0 0;"), -2);
    due("puts stay", w.it.count(9), 6);
    due("draw", w.draw("put left 12 0;"), 0);
    due("puts", w.it.count(9), 1);
    w.it.takeBack();
    due("puts of the latest that was done", w.it.count(9), 1);
  }
}
