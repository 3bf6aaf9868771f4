/** Terms 3 and the promises about RUNS: of each limit the last input within it and the first one beyond it. */
public final class RunEdgesTest {
  private static final int FAR = Works.FAR;
  private static final int LOW = Works.LOW;

  public static void main(String[] args) {
    noSuchRun();
    dropsOfARun();
    stocks();
    whyItEnds();
    askedInOrder();
    nextHopper();
    hundredLogged();
    logStays();
    noSuchRound();
    leadAndPeriod();
    runsThatEnd();
    asIfStocksNeverEnded();
    states4000();
    roundFromNowOn();
    Works.end("RunEdgesTest");
  }

  private static void says(String quote) {
    Works.says(quote);
  }

  private static void due(String what, long got, long want) {
    Works.due(what, got, want);
  }

  private static void noSuchRun() {
    says("A RUN: how it ended (0 to 5); NONE: no such HOPPER, n.");
    Works w = new Works().with("lane 1 0;lane 10 3;hopper 0 1 0 999;hopper 3 10 3 999;");
    int[][] none = {{-1, 1}, {4, 1}, {0, 0}, {0, 201}, {3, 0}, {3, 201}, {0, -1}, {LOW, 1}, {FAR, 1}, {0, LOW}, {0, FAR}, {-1, 0}, {4, 201}};
    for (int[] n : none) {
      due("run(" + n[0] + ", " + n[1] + ")", w.it.run(n[0], n[1]), -1);
    }
    due("no DROP", w.it.count(3), 0);
    due("no STOCK is taken", w.hopper(0, 2) + w.hopper(3, 2), 1998);
    due("run(0, 1)", w.it.run(0, 1), 0);
    due("run(3, 1)", w.it.run(3, 1), 0);
    due("run(0, 200)", w.it.run(0, 200), 0);
    due("run(3, 200)", w.it.run(3, 200), 0);
    due("no STOCK, but no such n", new Works().it.run(0, 201), -1);
    due("no STOCK, but no such n", new Works().it.run(0, 0), -1);
  }

  private static void dropsOfARun() {
    says("A RUN of a HOPPER, n DROPS at most (1 to 200): its DROP takes one from its STOCK;");
    int drops = 0;
    Works w = new Works().with("lane 1 0;hopper 0 1 0 999;");
    for (int n : new int[] {1, 2, 199, 200}) {
      due("run(0, " + n + ")", w.it.run(0, n), 0);
      drops += n;
      due("DROPS", w.it.count(3), drops);
      due("STOCK", w.hopper(0, 2), 999 - drops);
    }
    due("the others' STOCKS", w.hopper(1, 2) + w.hopper(2, 2) + w.hopper(3, 2), 0);
  }

  private static void stocks() {
    says("5 the STOCK of the HOPPER that is next is 0 (no DROP then; also ahead of the first);");
    Works w = new Works().with("lane 1 1;lane 4 0;hopper 0 1 0 2;hopper 1 4 0 1;");
    due("HOPPER 1 has none left behind 3", w.it.run(0, 200), 5);
    due("DROPS", w.it.count(3), 3);
    due("STOCKS", w.hopper(0, 2) * 10 + w.hopper(1, 2), 0);
    for (int i = 0; i < 2; i++) {
      due("ahead of the first", w.it.run(0, 1), 5);
      due("ahead of the first", w.it.run(1, 200), 5);
    }
    due("no DROP then", w.it.count(3), 3);
    due("STOCKS are not below 0", w.hopper(0, 2) * 10 + w.hopper(1, 2), 0);
    due("nothing more in THE LOG", w.it.logged(3), -1);
    Works v = new Works().with("lane 1 0;hopper 0 1 0 3;");
    due("3 of 3", v.it.run(0, 3), 0);
    due("none now", v.it.run(0, 1), 5);
    v.with("hopper 0 1 0 3;");
    due("3 of 4", v.it.run(0, 4), 5);
    due("DROPS", v.it.count(3), 6);
    v.with("hopper 0 1 0 1;");
    due("1 of 1", v.it.run(0, 1), 0);
    Works all = new Works().with("lane 1 0;hopper 0 1 0 999;");
    int[] ends = {0, 0, 0, 0, 5, 5};
    for (int end : ends) {
      due("run(0, 200)", all.it.run(0, 200), end);
    }
    due("all 999", all.it.count(3), 999);
    due("another HOPPER without STOCK ahead of the first", all.it.run(3, 1), 5);
  }

  private static void whyItEnds() {
    says("It ends: 0 behind n DROPS; 1 no LEVER; 2 CAUGHT; 3 JAMMED; 4 LOST;");
    for (int row = 0; row < 12; row += 11) {
      Works w = new Works().with("hopper 0 1 0 9;hopper 1 4 1 9;hopper 2 0 2 9;hopper 3 12 3 9;put trap 1 " + row + ";put cog 4 " + row
          + ";put left 0 " + row + ";put right 12 " + row + ";lane 0 0;lane 1 0;lane 3 0;lane 4 0;lane 12 0;");
      due("CAUGHT in row " + row, w.it.run(0, 9), 2);
      due("JAMMED in row " + row, w.it.run(1, 9), 3);
      due("LOST in row " + row, w.it.run(2, 9), 4);
      due("LOST in row " + row, w.it.run(3, 9), 4);
      due("DROPS", w.it.count(3), 4);
    }
    for (int lane = 0; lane < 13; lane++) {
      Works w = new Works().with("hopper 0 " + lane + " 0 9;" + "lane " + (lane + 1) % 13 + " 0;");
      due("no LEVER at LANE " + lane, w.it.run(0, 9), 1);
      due("a LEVER at LANE " + lane, w.with("lane " + lane + " 0;").it.run(0, 8), 0);
    }
  }

  private static void askedInOrder() {
    says("behind each DROP it is asked for 2, 3, 4, 1, then 0, then 5.");
    String one = "hopper 0 1 0 1;";
    due("1 ahead of 0 and 5", new Works().with(one).it.run(0, 1), 1);
    due("0 ahead of 5", new Works().with(one + "lane 1 0;").it.run(0, 1), 0);
    due("0 ahead of 5, another HOPPER", new Works().with(one + "lane 1 3;").it.run(0, 1), 0);
    due("5", new Works().with(one + "lane 1 0;").it.run(0, 2), 5);
    due("5, another HOPPER", new Works().with(one + "lane 1 3;").it.run(0, 2), 5);
    due("2 ahead of 0 and 5", new Works().with(one + "lane 1 0;put trap 1 9;").it.run(0, 1), 2);
    due("3 ahead of 0 and 5", new Works().with(one + "lane 1 0;put cog 1 9;").it.run(0, 1), 3);
    due("4 ahead of 0 and 5", new Works().with("hopper 0 0 0 1;lane 0 0;put left 0 9;").it.run(0, 1), 4);
    due("2 ahead of 1", new Works().with("hopper 0 0 0 1;put trap 0 11;").it.run(0, 9), 2);
    due("3 ahead of 1", new Works().with("hopper 0 0 0 1;put cog 0 11;").it.run(0, 9), 3);
    due("4 ahead of 1", new Works().with("hopper 0 0 0 1;put left 0 11;").it.run(0, 9), 4);
    Works last = new Works().with("hopper 0 1 0 9;lane 0 0;put counter 3 1 0;put trap 2 5;");
    due("0 behind 2", last.it.run(0, 2), 0);
    due("2 at the third, n or not", last.it.run(0, 1), 2);
  }

  private static void nextHopper() {
    says("if the marble LANDS where a LEVER is, the DROP of that LEVER's HOPPER is next.");
    Works w = new Works().with("lane 1 1;lane 4 2;lane 7 3;lane 10 0;hopper 0 1 0 9;hopper 1 4 1 9;hopper 2 7 2 9;hopper 3 10 3 9;");
    due("from HOPPER to HOPPER", w.it.run(2, 6), 0);
    int[] hoppers = {3, 2, 1, 0, 3, 2};
    for (int i = 0; i < 6; i++) {
      due("logged(" + i + ")", w.it.logged(i), hoppers[i] + 4 * (3 * hoppers[i] + 1));
    }
    due("STOCKS", w.hopper(0, 2) * 1000 + w.hopper(1, 2) * 100 + w.hopper(2, 2) * 10 + w.hopper(3, 2), 8877);
  }

  private static void hundredLogged() {
    says("THE LOG has the last 100 DROPS (HOPPER + 4 * HOW).");
    // a COUNTER of 9: the n-th DROP lands in LANE 2 where 9 divides n, else in LANE 0
    Works w = new Works().with("put counter 9 1 0;lane 0 0;lane 2 0;hopper 0 1 0 999;");
    says("The i-th of THE LOG, from the latest (0) on: HOPPER + 4 * HOW; NONE: none such.");
    due("none", w.it.logged(0), -1);
    int drops = 0;
    for (int n : new int[] {1, 98, 1, 1, 98, 1, 100}) {
      w.it.run(0, n);
      drops += n;
      for (int i : new int[] {0, 1, 97, 98, 99, 100, 101}) {
        int want = i >= 100 || i >= drops ? -1 : (drops - i) % 9 == 0 ? 8 : 0;
        due("behind " + drops + " DROPS, logged(" + i + ")", w.it.logged(i), want);
      }
    }
    for (int i = 0; i < 100; i++) {
      due("logged(" + i + ")", w.it.logged(i), (300 - i) % 9 == 0 ? 8 : 0);
    }
    for (int i : new int[] {-1, 100, LOW, FAR, -100}) {
      due("logged(" + i + ")", w.it.logged(i), -1);
    }
    Works ends = new Works().with("put trap 1 11;put cog 4 11;hopper 2 0 0 9;put left 0 11;hopper 3 12 0 9;hopper 0 1 0 9;hopper 1 4 0 9;");
    for (int hopper = 0; hopper < 4; hopper++) {
      ends.it.run(hopper, 1);
    }
    int[] hows = {12, 768 + 176, 512 + 176, 256 + 176};
    for (int i = 0; i < 4; i++) {
      due("HOW " + hows[i], ends.it.logged(i), 3 - i + 4 * hows[i]);
    }
  }

  private static void logStays() {
    says("3: DROPS in all,");
    Works w = new Works().with("hopper 0 5 0 9;");
    w.it.shelf(0, false);
    w.run(0, 3);
    w.it.takeBack();
    w.it.shelf(0, true);
    w.it.tries(0);
    w.it.round(0, 0);
    due("DROPS in all", w.it.count(3), 3);
    due("THE LOG", w.it.logged(2) * 10 + w.it.logged(3), 199);
  }

  // ---- COMES ROUND

  private static void noSuchRound() {
    says("COMES ROUND, what 0: LEAD, 1: PERIOD; NONE: it doesn't, no such HOPPER, what.");
    Works w = new Works().with("lane 1 0;lane 10 3;");
    int[][] none = {{-1, 0}, {4, 0}, {-1, 1}, {4, 1}, {0, -1}, {0, 2}, {3, -1}, {3, 2}, {LOW, 0}, {FAR, 0}, {0, LOW}, {0, FAR}, {1, 0}, {2, 1}};
    for (int[] n : none) {
      due("round(" + n[0] + ", " + n[1] + ")", w.it.round(n[0], n[1]), -1);
    }
    due("round(0, 0)", w.it.round(0, 0), 0);
    due("round(0, 1)", w.it.round(0, 1), 1);
    due("round(3, 0)", w.it.round(3, 0), 0);
    due("round(3, 1)", w.it.round(3, 1), 1);
  }

  private static void leadAndPeriod() {
    says("LEAD is how many DROPS are ahead of the first STATE (what all MOVING ones show and count, and the HOPPER that is next) that comes again, "
        + "PERIOD behind how many it comes again.");
    Works w = new Works().with("lane 1 1;lane 4 2;lane 7 1;");
    due("LEAD of HOPPER 0", w.it.round(0, 0), 1);
    due("PERIOD of HOPPER 0", w.it.round(0, 1), 2);
    due("LEAD of HOPPER 1", w.it.round(1, 0), 0);
    due("PERIOD of HOPPER 2", w.it.round(2, 1), 2);
    Works gate = new Works().with("put gate 1 1 0;lane 0 0;lane 2 0;");
    due("GATE", gate.it.round(0, 0) * 10 + gate.it.round(0, 1), 2);
    Works seesaw = new Works().with("put seesaw 0 1 0;lane 0 0;lane 2 0;");
    due("SEESAW", seesaw.it.round(0, 0) * 10 + seesaw.it.round(0, 1), 11);
    for (int n = 2; n <= 9; n++) {
      Works counter = new Works().with("put counter " + n + " 1 0;lane 0 0;lane 2 0;");
      due("COUNTER of " + n, counter.it.round(0, 0) * 10 + counter.it.round(0, 1), n);
    }
    // the HOPPER that is next is part of the STATE: all four, though nothing moves
    Works four = new Works().with("lane 1 1;lane 4 2;lane 7 3;lane 10 0;");
    due("four HOPPERS", four.it.round(0, 0) * 10 + four.it.round(0, 1), 4);
    Works same = new Works().with("lane 5 0;hopper 0 5 0 0;lane 4 0;hopper 1 5 0 0;");
    due("one into another that lands alike", same.it.round(1, 0) * 10 + same.it.round(1, 1), 11);
  }

  private static void runsThatEnd() {
    says("If the run ends (1 to 4) it does not, nor if more than 4000 STATES come ahead of that.");
    String counter = "put counter 9 1 0;lane 0 0;";
    String[] ends = {"", "put trap 2 1;", "put cog 2 1;", "put right 2 1;put right 3 2;put right 4 3;put right 5 4;put right 6 5;put right 7 6;"
        + "put right 8 7;put right 9 8;put right 10 9;put right 11 10;put right 12 11;"};
    for (String end : ends) {
      Works w = new Works().with(counter + end);
      due("it ends at the 9th DROP: LEAD", w.it.round(0, 0), -1);
      due("PERIOD", w.it.round(0, 1), -1);
    }
    Works w = new Works().with(counter + "lane 2 0;");
    due("it does not end", w.it.round(0, 1), 9);
    for (String piece : new String[] {"trap", "cog"}) {
      for (int row = 0; row < 12; row += 11) {
        Works at = new Works().with("put " + piece + " 1 " + row + ";lane 1 0;");
        due(piece + " in row " + row + ": LEAD", at.it.round(0, 0), -1);
        due(piece + " in row " + row + ": PERIOD", at.it.round(0, 1), -1);
      }
    }
    Works lost = new Works().with("hopper 0 0 0 0;put left 0 0;lane 0 0;");
    due("LOST at once", lost.it.round(0, 0), -1);
  }

  private static void asIfStocksNeverEnded() {
    says("COMES ROUND, of a HOPPER, from now on, as if STOCKS never ended, in a copy:");
    Works w = new Works().with("put counter 9 1 0;put gate 0 2 1;lane 0 0;lane 1 0;lane 3 0;hopper 0 1 0 2;");
    due("18 with a STOCK of 2", w.it.round(0, 1), 18);
    due("nothing moved", w.it.shows(1, 0) + w.it.shows(2, 1), 0);
    due("no STOCK was taken", w.hopper(0, 2), 2);
    due("no DROP", w.it.count(3), 0);
    due("nothing in THE LOG", w.it.logged(0), -1);
    w.run(0, 2);
    due("18 with a STOCK of 0", w.it.round(0, 0) * 100 + w.it.round(0, 1), 18);
    due("what moved stays", w.it.shows(1, 0), 2);
  }

  private static void states4000() {
    says("nor if more than 4000 STATES come ahead of that.");
    int[][] sizes = {{8, 5, 5, 5, 4}, {9, 4, 4, 3, 9}, {5, 5, 5, 8, 4}, {9, 9, 7, 7}, {9, 8, 8, 7}, {2, 2, 2, 2, 2, 2, 2, 2, 2, 2, 2}};
    for (int[] s : sizes) {
      int states = 1;
      for (int n : s) {
        states *= n;
      }
      Works w = new Works().with(Works.chain(s));
      due("LEAD of " + states, w.it.round(0, 0), states <= 4000 ? 0 : -1);
      due("PERIOD of " + states, w.it.round(0, 1), states <= 4000 ? states : -1);
    }
    Works w = new Works().with(Works.chain(8, 5, 5, 5, 4) + "lane 12 0;hopper 1 12 0 0;");
    due("one ahead of 4000: LEAD", w.it.round(1, 0), -1);
    due("one ahead of 4000: PERIOD", w.it.round(1, 1), -1);
    due("4000 from HOPPER 0 on", w.it.round(0, 1), 4000);
    // HOPPER 2 counts in a chain of its own, 400 DROPS, until the last one goes on to HOPPER 0
    Works lead = new Works().with(Works.chain(9, 8, 5, 5, 2) + "hopper 2 8 0 0;put counter 5 8 0;put counter 5 9 1;put counter 4 10 2;put counter 4 11 3;"
        + "lane 7 2;lane 8 2;lane 9 2;lane 10 2;lane 12 0;hopper 3 7 0 0;");
    due("LEAD 400, PERIOD 3600: LEAD", lead.it.round(2, 0), 400);
    due("LEAD 400, PERIOD 3600: PERIOD", lead.it.round(2, 1), 3600);
    due("LEAD 401, PERIOD 3600: LEAD", lead.it.round(3, 0), -1);
    due("LEAD 401, PERIOD 3600: PERIOD", lead.it.round(3, 1), -1);
  }

  private static void roundFromNowOn() {
    says("COMES ROUND, of a HOPPER, from now on,");
    Works w = new Works().with("put seesaw 0 1 0;put counter 3 2 1;lane 0 0;lane 1 0;lane 3 0;hopper 0 1 0 9;");
    due("now", w.it.round(0, 0) * 10 + w.it.round(0, 1), 13);
    w.run(0, 1);
    due("behind a DROP", w.it.round(0, 0) * 10 + w.it.round(0, 1), 3);
    w.it.shelf(0, false);
    w.with("lane 3 4;");
    due("behind a PROGRAM", w.it.round(0, 1), -1);
    w.it.takeBack();
    due("TAKEN BACK", w.it.round(0, 1), 3);
    w.it.takeBack();
    due("TAKEN BACK again", w.it.round(0, 1), -1);
    w.it.shelf(0, true);
    due("from a SHELF", w.it.round(0, 0) * 10 + w.it.round(0, 1), 3);
  }
}
