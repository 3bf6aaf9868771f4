/** Terms 4 and the promises about SHELVES, TRIES, WISHES and SIGHTS: of each limit the last input within it and the first one beyond it. */
public final class SearchEdgesTest {
  private static final int FAR = Works.FAR;
  private static final int LOW = Works.LOW;
  private static final int[] NO_SHELVES = {-1, 4, LOW, FAR};

  public static void main(String[] args) {
    shelves();
    shelvesHoldCopies();
    shelfBack();
    alikeNone();
    alikeItself();
    alike();
    tellingTry();
    manyPairs();
    firstByItsHoppers();
    pairs3000();
    pairsInOrder();
    wishFalse();
    wishAnew();
    wishesApart();
    twelveWishes();
    wishWhereNoneIs();
    way();
    wayNone();
    firstWay();
    states3000();
    sights();
    sixtySights();
    suspects();
    suspectNone();
    firstOfItsTrain();
    sticks();
    seventeenSuspects();
    bestTest();
    testNone();
    Works.end("SearchEdgesTest");
  }

  private static void says(String quote) {
    Works.says(quote);
  }

  private static void due(String what, long got, long want) {
    Works.due(what, got, want);
  }

  private static void due(String what, boolean got, boolean want) {
    Works.due(what, got, want);
  }

  /** The chain, and no other HOPPER moves anything. */
  private static String lonelyChain(int... sizes) {
    return Works.chain(sizes) + "hopper 1 12 0 0;hopper 2 12 0 0;hopper 3 12 0 0;";
  }

  /** A COUNTER for each HOPPER, of the size told (0: none), whose marbles all come to one LANE. */
  private static String hidden(int... sizes) {
    StringBuilder b = new StringBuilder();
    for (int h = 0; h < 4; h++) {
      if (sizes[h] > 0) {
        b.append("put counter ").append(sizes[h]).append(' ').append(3 * h + 1).append(" 0;");
        b.append("put right ").append(3 * h).append(" 1;put left ").append(3 * h + 2).append(" 1;");
      }
    }
    return b.toString();
  }

  /** Two SHELVES, 0 and 1, with a BOARD each. */
  private static Works two(String one, String other) {
    Works w = new Works().with(one);
    w.it.shelf(0, false);
    w.it.takeBack();
    w.with(other);
    w.it.shelf(1, false);
    return w;
  }

  // ---- SHELVES

  private static void shelves() {
    says("The BOARD is copied to a SHELF (back: the SHELF's to the BOARD; nothing can be TAKEN BACK then, STOCKS, LEVERS are its): true; "
        + "false: none such, nothing is on it (back).");
    Works w = new Works();
    for (int shelf : NO_SHELVES) {
      due("shelf(" + shelf + ", false)", w.it.shelf(shelf, false), false);
      due("shelf(" + shelf + ", true)", w.it.shelf(shelf, true), false);
    }
    for (int shelf = 0; shelf < 4; shelf++) {
      due("nothing is on it", w.it.shelf(shelf, true), false);
    }
    for (int shelf = 0; shelf < 4; shelf++) {
      due("an empty BOARD to SHELF " + shelf, w.it.shelf(shelf, false), true);
      due("back", w.it.shelf(shelf, true), true);
      due("nothing is on the next", w.it.shelf(shelf + 1, true), false);
    }
    says("SHELVES 0 to 3 hold copies of BOARDS (what moves is as it was then), empty at first.");
    Works four = new Works();
    for (int shelf = 0; shelf < 4; shelf++) {
      four.with("put cog " + shelf + " 0;");
      four.it.shelf(shelf, false);
    }
    for (int shelf = 3; shelf >= 0; shelf--) {
      four.it.shelf(shelf, true);
      due("PIECES of SHELF " + shelf, four.it.count(0), shelf + 1);
    }
  }

  private static void shelvesHoldCopies() {
    says("hold copies of BOARDS (what moves is as it was then)");
    Works w = new Works().with("put gate 0 1 0;put counter 9 4 0;put seesaw 0 7 0;hopper 0 1 0 9;hopper 1 4 0 9;hopper 2 7 0 9;");
    w.run(1, 3);
    w.it.shelf(0, false);
    w.run(0, 1);
    w.run(1, 1);
    w.run(2, 1);
    w.it.shelf(1, false);
    w.it.takeBack();
    w.it.shelf(0, true);
    due("as it was then", w.it.shows(1, 0) * 100 + w.it.shows(4, 0) * 10 + w.it.shows(7, 0), 30);
    w.run(0, 1);
    w.it.shelf(1, true);
    due("as it was later", w.it.shows(1, 0) * 100 + w.it.shows(4, 0) * 10 + w.it.shows(7, 0), 141);
    w.it.shelf(0, true);
    due("a RUN does not reach the SHELF", w.it.shows(1, 0) * 100 + w.it.shows(4, 0) * 10 + w.it.shows(7, 0), 30);
  }

  private static void shelfBack() {
    says("nothing can be TAKEN BACK then, STOCKS, LEVERS are its)");
    Works w = new Works().with("hopper 0 2 3 9;lane 2 0;lane 12 3;");
    w.it.run(0, 4);
    due("to the SHELF", w.it.shelf(2, false), true);
    due("it can be TAKEN BACK yet", w.it.count(4), 1);
    w.with("hopper 0 5 1 99;lane 2 4;lane 5 0;");
    due("a SHELF that is none", w.it.shelf(4, true), false);
    due("an empty one", w.it.shelf(1, true), false);
    due("both can be TAKEN BACK yet", w.it.count(4), 2);
    due("back", w.it.shelf(2, true), true);
    due("none can", w.it.count(4), 0);
    due("takeBack", w.it.takeBack(), false);
    due("HOPPER", w.hopper(0, 0) * 100 + w.hopper(0, 1) * 10 + w.hopper(0, 2), 235);
    due("LEVERS", w.it.count(8) * 100 + w.it.lever(2) * 10 + w.it.lever(12), 203);
    w.with("lane 0 0;");
    due("a new one can", w.it.count(4), 1);
    due("takeBack", w.it.takeBack(), true);
    due("no more", w.it.takeBack(), false);
    Works full = new Works();
    for (int i = 0; i < 20; i++) {
      full.with("lane 0 0;");
    }
    full.it.shelf(0, false);
    full.it.shelf(0, true);
    due("none of 20", full.it.takeBack(), false);
    for (int i = 0; i < 21; i++) {
      full.with("put cog " + i % 13 + " " + i / 13 + ";");
    }
    due("20 again", full.it.count(4), 20);
  }

  // ---- ALIKE

  private static void alikeNone() {
    says("ALIKE: 0 (a SHELF and itself always); else how many DROPS THE TELLING TRY has; NONE: no such SHELF, an empty one, unknown.");
    Works w = new Works();
    w.it.shelf(0, false);
    w.it.shelf(3, false);
    due("alike(0, 3)", w.it.alike(0, 3), 0);
    for (int shelf : new int[] {-1, 1, 2, 4, LOW, FAR}) {
      for (int filled = 0; filled < 4; filled += 3) {
        due("alike(" + shelf + ", " + filled + ")", w.it.alike(shelf, filled), -1);
        due("alike(" + filled + ", " + shelf + ")", w.it.alike(filled, shelf), -1);
        due("telling(" + shelf + ", " + filled + ")", w.it.telling(shelf, filled, 0), -1);
        due("telling(" + filled + ", " + shelf + ")", w.it.telling(filled, shelf, 0), -1);
      }
    }
    for (int[] n : new int[][] {{-1, -1}, {4, 4}, {1, 1}, {1, 2}, {-1, 4}}) {
      due("alike(" + n[0] + ", " + n[1] + ")", w.it.alike(n[0], n[1]), -1);
    }
  }

  private static void alikeItself() {
    says("(a SHELF and itself always)");
    Works w = new Works().with(lonelyChain(9, 8, 7, 6));
    for (int shelf = 0; shelf < 4; shelf++) {
      w.it.shelf(shelf, false);
      due("alike(" + shelf + ", " + shelf + ")", w.it.alike(shelf, shelf), 0);
      due("telling(" + shelf + ", " + shelf + ", 0)", w.it.telling(shelf, shelf, 0), -1);
    }
    due("but unknown of two that are the same", w.it.alike(0, 1), -1);
  }

  private static void alike() {
    says("TWO SHELVES are ALIKE if no TRY has a DROP that ends otherwise on one of them than on the other.");
    due("empty BOARDS", two("", "").it.alike(0, 1), 0);
    due("what no marble comes to", two("", "put cog 0 0;put gate 1 12 11;").it.alike(0, 1), 0);
    due("LEVERS, STOCKS", two("", "lane 1 0;hopper 1 4 1 999;").it.alike(0, 1), 0);
    due("a kind that no SIEVE asks for", two("", "hopper 1 4 3 0;").it.alike(0, 1), 0);
    due("a kind that a SIEVE asks for", two("put sieve 1 4 0;", "put sieve 1 4 0;hopper 1 4 3 0;").it.alike(0, 1), 1);
    due("a column", two("", "hopper 3 11 3 0;").it.alike(0, 1), 1);
    due("two ways to one LANE", two("put left 4 0;put right 3 1;", "put right 4 0;put left 5 1;").it.alike(0, 1), 0);
    due("GATE and COUNTER of 2", two("put gate 0 4 0;", "put counter 2 4 0;").it.alike(0, 1), 0);
    due("COUNTER of 2 and GATE", two("put counter 2 4 0;", "put gate 0 4 0;").it.alike(0, 1), 0);
    says("TRIES are HOPPERS one behind the other, each dropped whatever comes of the one ahead.");
    due("behind one that was CAUGHT", two("put gate 0 4 0;put trap 3 1;", "put gate 0 4 0;put trap 3 1;put cog 5 1;").it.alike(0, 1), 2);
    due("behind one that JAMMED", two("put gate 0 4 0;put cog 3 1;", "put gate 0 4 0;put cog 3 1;put trap 5 1;").it.alike(0, 1), 2);
    due("behind one that was LOST", two("hopper 0 12 0 0;hopper 1 0 0 0;put gate 0 0 0;", "hopper 0 12 0 0;hopper 1 0 0 0;put gate 0 0 0;put trap 1 1;").it.alike(0, 1), 2);
    due("without a LEVER, without STOCK", two("put gate 0 4 0;", "put gate 0 4 0;put trap 5 1;").it.alike(0, 1), 2);
    Works through = new Works().with("put gate 0 4 0;put trap 3 1;put gate 0 5 1;put cog 5 0;");
    through.it.wish(5, 1, 0);
    through.it.wish(4, 0, 1);
    due("no WAY", through.it.way(), -1);
    says("THE TELLING TRY is the shortest one whose last DROP does;");
    for (int n = 2; n < 9; n++) {
      Works w = two("put counter " + n + " 4 0;", "put counter " + (n + 1) + " 4 0;");
      due("COUNTERS of " + n + " and one more", w.it.alike(0, 1), n);
      due("the other way round", w.it.alike(1, 0), n);
    }
  }

  private static void tellingTry() {
    says("The i-th HOPPER of THE TELLING TRY (from 0); NONE: none such.");
    Works w = two("put counter 9 4 0;", "put counter 9 4 0;put cog 5 1;");
    due("9 DROPS", w.it.alike(0, 1), 9);
    due("the first", w.it.telling(0, 1, 0), 1);
    due("the last", w.it.telling(0, 1, 8), 1);
    for (int i : new int[] {-1, 9, LOW, FAR}) {
      due("telling(0, 1, " + i + ")", w.it.telling(0, 1, i), -1);
    }
    Works same = two("", "");
    due("none if ALIKE", same.it.telling(0, 1, 0), -1);
    Works anew = two("put left 1 0;", "put right 1 0;");
    due("HOPPER 0", anew.it.telling(0, 1, 0), 0);
    anew.it.shelf(0, false);
    due("the SHELF is filled anew", anew.it.telling(0, 1, 0), -1);
    anew.with("put cog 10 9;");
    anew.it.shelf(1, false);
    due("the other is filled anew", anew.it.telling(0, 1, 0), 3);
  }

  /** Each two of four SHELVES, asked for in turns, with a great search among them. */
  private static void manyPairs() {
    says("else how many DROPS THE TELLING TRY has;");
    Works w = new Works().with(lonelyChain(8, 5, 5, 5, 3));
    w.it.shelf(0, false);
    w.it.shelf(1, false);
    due("3000 pairs", w.it.alike(0, 1), 0);
    w.it.takeBack();
    w.with("put gate 0 1 0;put gate 0 4 0;");
    w.it.shelf(2, false);
    w.it.takeBack();
    w.with("put counter 2 1 0;put counter 2 4 0;");
    w.it.shelf(3, false);
    due("nothing is left of the pairs ahead", w.it.alike(2, 3), 0);
    w.it.shelf(0, false);
    w.with("put cog 7 7;");
    w.it.shelf(1, false);
    w.with("put trap 0 5;");
    w.it.shelf(3, false);
    int[][] want = {{0, 1, 0, 1}, {1, 0, 1, 1}, {0, 1, 0, 1}, {1, 1, 1, 0}};
    int[][] first = {{-1, 2, -1, 0}, {2, -1, 2, 0}, {-1, 2, -1, 0}, {0, 0, 0, -1}};
    for (int a = 0; a < 4; a++) {
      for (int b = 0; b < 4; b++) {
        due("alike(" + a + ", " + b + ")", w.it.alike(a, b), want[a][b]);
        due("telling(" + b + ", " + a + ", 0)", w.it.telling(b, a, 0), first[a][b]);
        due("telling(" + a + ", " + b + ", 0)", w.it.telling(a, b, 0), first[a][b]);
      }
    }
    for (int i = 0; i < 32; i++) {
      int a = i < 16 ? 3 - i % 4 : i / 4 % 4;
      int b = i < 16 ? i / 4 : 3 - i % 4;
      due("alike(" + a + ", " + b + ")", w.it.alike(a, b), want[a][b]);
    }
    for (int i = 0; i < 16; i++) {
      due("telling(" + i % 4 + ", " + i / 4 + ", 0)", w.it.telling(i % 4, i / 4, 0), first[i % 4][i / 4]);
    }
  }

  private static void firstByItsHoppers() {
    says("THE TELLING TRY is the shortest one whose last DROP does; of those as long the first by its HOPPERS, from the front.");
    for (int hopper = 0; hopper < 4; hopper++) {
      StringBuilder cogs = new StringBuilder();
      for (int h = hopper; h < 4; h++) {
        cogs.append("put cog ").append(3 * h + 1).append(" 3;");
      }
      due("the first HOPPER that tells", two("", cogs.toString()).it.telling(0, 1, 0), hopper);
    }
    // any two DROPS of HOPPERS 1 to 3 fill the COUNTER of 2; HOPPER 0 is elsewhere
    String same = "hopper 0 12 0 0;hopper 1 5 0 0;hopper 2 5 0 0;hopper 3 5 0 0;put counter 2 5 0;";
    Works w = two(same, same + "put trap 6 9;");
    due("two", w.it.alike(0, 1), 2);
    due("HOPPERS 1, 1", w.it.telling(0, 1, 0) * 10 + w.it.telling(0, 1, 1), 11);
    Works shorter = two("put counter 2 1 0;", "put counter 2 1 0;put trap 2 9;put trap 10 0;");
    due("the shortest, though 0 0 would be the first", shorter.it.telling(0, 1, 0) * 10 + shorter.it.alike(0, 1), 31);
  }

  private static void pairs3000() {
    says("(Unknown if more than 3000 pairs of what moves come up:");
    due("3000 pairs", two(lonelyChain(8, 5, 5, 5, 3), lonelyChain(8, 5, 5, 5, 3)).it.alike(0, 1), 0);
    // a SEESAW ahead of the chain is left once, then right for ever: one pair more
    String lead = "hopper 0 1 0 0;hopper 1 12 0 0;hopper 2 12 0 0;hopper 3 12 0 0;put seesaw 0 1 0;put counter 8 2 1;put counter 5 3 2;"
        + "put counter 5 4 3;put counter 5 5 4;put counter 3 6 5;";
    Works more = two(lead, lead);
    due("3001 pairs", more.it.alike(0, 1), -1);
    due("its TRY", more.it.telling(0, 1, 0), -1);
    due("the pairs of 8 and 3, three times 5 and 5: 3000", two(hidden(8, 5, 5, 5), hidden(3, 5, 5, 5)).it.alike(0, 1), 0);
    due("the pairs of 8 and 9, 5 and 8: 2880", two(hidden(8, 5, 0, 0), hidden(9, 8, 0, 0)).it.alike(0, 1), 0);
    due("the pairs of 8 and 9, 6 and 7: 3024", two(hidden(8, 6, 0, 0), hidden(9, 7, 0, 0)).it.alike(0, 1), -1);
    Works one = two(lonelyChain(9, 8, 7, 6), lonelyChain(9, 8, 7, 6) + "put cog 0 11;");
    due("what tells ahead of that counts", one.it.alike(0, 1), 1);
  }

  /** Two SHELVES with the chain of 3024 and a SEESAW behind it, so many DROPS ahead; the second has more on it. */
  private static Works behind(int drops, String hoppers, String more) {
    Works w = new Works().with(lonelyChain(9, 8, 7, 6) + "put seesaw 0 5 4;" + hoppers);
    w.run(w.hopper(0, 0) == 1 ? 0 : 2, drops);
    w.it.shelf(0, false);
    w.with(more);
    w.it.shelf(1, false);
    return w;
  }

  private static void pairsInOrder() {
    says("pairs are looked through by the length of the TRY, then in the order of TRIES; the first of all counts.)");
    for (int drops = 23; drops <= 25; drops++) {
      int length = 3024 - drops;
      boolean known = length <= 3000;
      Works w = behind(drops, "", "put trap 4 5;");
      due("the chain is full: HOPPER 0 tells behind " + length + " pairs", w.it.alike(0, 1), known ? length : -1);
      due("its first", w.it.telling(0, 1, 0), known ? 0 : -1);
      due("its last", w.it.telling(0, 1, length - 1), known ? 0 : -1);
      due("none behind it", w.it.telling(0, 1, length), -1);
    }
    for (int drops = 24; drops <= 27; drops++) {
      int length = 3025 - drops;
      boolean known = length + 1 <= 3000;
      Works w = behind(drops, "hopper 1 5 0 0;", "put cog 6 9;");
      due("then HOPPER 1 tells; HOPPER 0 is ahead of it, and brings up pair " + (length + 1), w.it.alike(0, 1), known ? length : -1);
      due("its last", w.it.telling(0, 1, length - 1), known ? 1 : -1);
      Works v = behind(drops, "hopper 0 12 0 0;hopper 1 5 0 0;hopper 2 1 0 999;", "put cog 6 9;");
      known = length <= 3000;
      due("HOPPER 2 is behind it: pair " + length + " is the last", v.it.alike(0, 1), known ? length : -1);
      due("its last but one", v.it.telling(0, 1, length - 2), known ? 2 : -1);
      due("its last", v.it.telling(0, 1, length - 1), known ? 1 : -1);
    }
  }

  // ---- WISHES

  private static void wishFalse() {
    says("A WISH that a PLACE shows 0 or 1 (2: none any more): true; false: no GATE nor SEESAW there now (but 2, where a WISH is), another one, 12 are there.");
    Works w = new Works().with("put gate 0 0 0;put seesaw 1 12 11;put left 1 0;put right 2 0;put cross 3 0;put trap 4 0;put sieve 0 5 0;put counter 2 6 0;"
        + "put cog 8 0;");
    for (int to = -1; to <= 3; to++) {
      for (int column = 1; column <= 9; column++) {
        due("wish(" + column + ", 0, " + to + ")", w.it.wish(column, 0, to), false);
      }
    }
    for (int to : new int[] {-1, 3, LOW, FAR, 4}) {
      due("wish(0, 0, " + to + ")", w.it.wish(0, 0, to), false);
    }
    due("no WISH", w.it.count(6), 0);
    for (int to = 0; to <= 1; to++) {
      due("GATE, " + to, w.it.wish(0, 0, to), true);
      due("SEESAW, " + to, w.it.wish(12, 11, to), true);
      due("WISHES", w.it.count(6), 2);
    }
    due("GATE, 2", w.it.wish(0, 0, 2), true);
    due("SEESAW, 2", w.it.wish(12, 11, 2), true);
    due("WISHES", w.it.count(6), 0);
  }

  private static void wishAnew() {
    says("(2: none any more)");
    Works w = new Works().with("put gate 0 1 0;");
    due("1", w.it.wish(1, 0, 1), true);
    due("way", w.it.way(), 1);
    due("0 instead", w.it.wish(1, 0, 0), true);
    due("one WISH", w.it.count(6), 1);
    due("way", w.it.way(), 0);
    due("1 instead", w.it.wish(1, 0, 1), true);
    due("another one is refused", w.it.wish(1, 0, 3), false);
    due("the WISH stays", w.it.way(), 1);
    due("none any more", w.it.wish(1, 0, 2), true);
    due("no WISH", w.it.count(6), 0);
    due("way", w.it.way(), 0);
  }

  private static void wishesApart() {
    says("WISHES: what GATES and SEESAWS at PLACES are to show,");
    Works w = new Works().with("put gate 1 1 0;put gate 0 4 0;put gate 0 7 0;put gate 0 10 0;");
    due("the first GATE is not asked", w.it.wish(4, 0, 1), true);
    due("1", w.it.way() * 10 + w.it.step(0), 11);
    w.it.wish(7, 0, 0);
    w.it.wish(10, 0, 1);
    due("1 and 3", w.it.way() * 100 + w.it.step(0) * 10 + w.it.step(1), 213);
    due("the first of three any more", w.it.wish(4, 0, 2), true);
    due("3", w.it.way() * 10 + w.it.step(0), 13);
    due("the last moved up: none any more", w.it.wish(10, 0, 2), true);
    due("the GATE of 0 is left", w.it.way(), 0);
    due("of it: 1", w.it.wish(7, 0, 1), true);
    due("2", w.it.way() * 10 + w.it.step(0), 12);
    due("one WISH", w.it.count(6), 1);
  }

  private static void twelveWishes() {
    says("WISHES: what GATES and SEESAWS at PLACES are to show, 12 at most.");
    Works w = new Works().with("again 7 by 2 0(put gate 0 0 0;put seesaw 0 0 2;);");
    int told = 0;
    for (int i = 0; i < 14; i++) {
      boolean more = told < 12;
      due("WISH " + i, w.it.wish(i / 2 * 2, i % 2 * 2, 1), more);
      told += more ? 1 : 0;
      due("WISHES", w.it.count(6), told);
    }
    due("one of the 12 anew", w.it.wish(0, 0, 0), true);
    due("the last of the 12 anew", w.it.wish(10, 2, 0), true);
    due("12 yet", w.it.count(6), 12);
    due("the 13th is refused yet", w.it.wish(12, 0, 0), false);
    due("one less", w.it.wish(4, 0, 2), true);
    due("11", w.it.count(6), 11);
    due("one more", w.it.wish(12, 0, 0), true);
    due("not two", w.it.wish(12, 2, 0), false);
    for (int i = 0; i < 14; i++) {
      due("none any more", w.it.wish(i / 2 * 2, i % 2 * 2, 2), true);
    }
    due("none", w.it.count(6), 0);
  }

  private static void wishWhereNoneIs() {
    says("false: no GATE nor SEESAW there now (but 2, where a WISH is)");
    Works w = new Works().with("put gate 0 1 0;put seesaw 0 4 0;");
    w.it.wish(1, 0, 1);
    w.it.wish(4, 0, 0);
    w.it.takeBack();
    due("the WISHES stay", w.it.count(6), 2);
    due("no GATE there now: 0", w.it.wish(1, 0, 0), false);
    due("no GATE there now: 1", w.it.wish(1, 0, 1), false);
    due("but 2", w.it.wish(1, 0, 2), true);
    due("no WISH there now", w.it.wish(1, 0, 2), false);
    w.with("put counter 2 4 0;");
    due("a COUNTER there now: 0", w.it.wish(4, 0, 0), false);
    due("way", w.it.way(), -1);
    due("but 2", w.it.wish(4, 0, 2), true);
    due("no WISH there now", w.it.wish(4, 0, 2), false);
    due("WISHES", w.it.count(6), 0);
    due("way", w.it.way(), 0);
  }

  private static void way() {
    says("THE WAY is the shortest TRY behind which all show so (none if they do now), of those as long the first;");
    Works w = new Works().with("put gate 0 1 0;put gate 1 4 0;put seesaw 1 7 0;");
    due("no WISH", w.it.way(), 0);
    due("no step", w.it.step(0), -1);
    w.it.wish(1, 0, 0);
    w.it.wish(4, 0, 1);
    w.it.wish(7, 0, 1);
    due("they do now", w.it.way(), 0);
    due("no step", w.it.step(0), -1);
    w.it.wish(4, 0, 0);
    due("one", w.it.way(), 1);
    due("HOPPER 1", w.it.step(0), 1);
    says("The i-th HOPPER of THE WAY (from 0); NONE: none such.");
    for (int i : new int[] {-1, 1, LOW, FAR}) {
      due("step(" + i + ")", w.it.step(i), -1);
    }
    due("nothing is dropped", w.it.count(3) + w.it.shows(1, 0), 0);
    // HOPPER 2 comes from the left: the SEESAW shows right whatever it does
    w.it.wish(7, 0, 0);
    due("no HOPPER makes it show left", w.it.way(), -1);
    due("no step", w.it.step(0), -1);
    Works nine = new Works().with("put counter 9 1 0;put gate 0 2 1;");
    nine.it.wish(2, 1, 1);
    due("9 DROPS", nine.it.way(), 9);
    due("the last", nine.it.step(8), 0);
    due("none behind it", nine.it.step(9), -1);
  }

  private static void wayNone() {
    says("How many DROPS THE WAY has; NONE: there is none, unknown, a WISH of a PLACE that has no GATE nor SEESAW any more.");
    Works w = new Works().with("put gate 0 12 0;").with("put gate 0 1 0;");
    w.it.wish(12, 0, 0);
    w.it.wish(1, 0, 0);
    due("both do now", w.it.way(), 0);
    w.it.wish(12, 0, 1);
    due("no HOPPER comes there", w.it.way(), -1);
    w.it.wish(12, 0, 0);
    w.it.takeBack();
    due("no GATE any more", w.it.way(), -1);
    due("no step", w.it.step(0), -1);
    w.with("put counter 2 1 0;");
    due("a COUNTER instead", w.it.way(), -1);
    w.it.takeBack();
    w.with("put cog 1 0;");
    due("a COG instead", w.it.way(), -1);
    w.it.takeBack();
    w.with("put seesaw 0 1 0;");
    due("a SEESAW instead", w.it.way(), 0);
    w.it.takeBack();
    due("no GATE any more", w.it.way(), -1);
    w.it.wish(1, 0, 2);
    due("nor a WISH", w.it.way(), 0);
  }

  private static void firstWay() {
    says("of those as long the first; unknown");
    for (int hopper = 0; hopper < 4; hopper++) {
      StringBuilder b = new StringBuilder("put gate 0 5 9;");
      for (int h = 0; h < 4; h++) {
        b.append("hopper ").append(h).append(h < hopper ? " 12" : " 5").append(" 0 0;");
      }
      Works w = new Works().with(b.toString());
      w.it.wish(5, 9, 1);
      due("the first HOPPER that comes there", w.it.step(0), hopper);
      due("one", w.it.way(), 1);
    }
    Works two = new Works().with("put gate 0 4 0;put gate 0 7 0;put gate 0 10 0;");
    two.it.wish(10, 0, 1);
    two.it.wish(7, 0, 1);
    two.it.wish(4, 0, 1);
    due("1, 2, 3 is the first of six", two.it.step(0) * 100 + two.it.step(1) * 10 + two.it.step(2), 123);
    // 0 alone would do behind two, 3 at once
    Works shorter = new Works().with("put counter 2 1 0;put gate 0 2 1;hopper 3 2 0 0;");
    shorter.it.wish(2, 1, 1);
    due("the shortest, though 0 0 would be the first", shorter.it.way() * 10 + shorter.it.step(0), 13);
  }

  private static void states3000() {
    says("unknown if more than 3000 STATES (without a HOPPER) come up, what shows so among them.");
    for (int drops = 24; drops <= 26; drops++) {
      Works w = new Works().with(lonelyChain(9, 8, 7, 6) + "put gate 0 5 4;");
      w.it.wish(5, 4, 1);
      w.it.run(0, drops);
      int length = 3024 - drops;
      boolean known = length + 1 <= 3000;
      due("the STATE that shows so is number " + (length + 1), w.it.way(), known ? length : -1);
      due("the first", w.it.step(0), known ? 0 : -1);
      due("the last", w.it.step(length - 1), known ? 0 : -1);
      due("none behind it", w.it.step(length), -1);
    }
    // HOPPER 1 comes to the GATE when the SEESAW behind the chain shows right; but HOPPER 0 is ahead of it
    for (int drops = 26; drops <= 28; drops++) {
      Works w = new Works().with(lonelyChain(9, 8, 7, 6) + "hopper 1 5 0 0;put seesaw 0 5 4;put gate 0 6 5;");
      w.it.wish(6, 5, 1);
      w.it.run(0, drops);
      int length = 3025 - drops;
      boolean known = length + 2 <= 3000;
      due("the STATE that shows so is number " + (length + 2), w.it.way(), known ? length : -1);
      due("the last", w.it.step(length - 1), known ? 1 : -1);
    }
    // 3000 STATES in all, none of which shows so; and 3024
    Works none = new Works().with(lonelyChain(8, 5, 5, 5, 3) + "put gate 0 11 0;");
    none.it.wish(11, 0, 1);
    due("there is none", none.it.way(), -1);
    none.it.wish(11, 0, 0);
    due("it does now, however many STATES there are", none.it.way(), 0);
    // without a HOPPER: HOPPERS 1 and 3 come into the same STATES
    Works same = new Works().with("hopper 0 1 0 999;hopper 2 1 0 0;put counter 9 1 0;put counter 8 2 1;put counter 7 3 2;put counter 5 4 3;put gate 0 5 4;"
        + "hopper 1 1 0 0;hopper 3 1 0 0;");
    same.it.wish(5, 4, 1);
    due("2520 STATES and the last", same.it.way(), 2520);
  }

  // ---- SIGHTS and SUSPECTS

  private static void sights() {
    says("A SIGHT more: its number; NONE: no such HOPPER, HOW below 0 or above 1000, 60 are told. (HOPPER NONE: all are forgotten, answer 0.)");
    Works w = new Works();
    int[][] none = {{-2, 0}, {4, 0}, {0, -1}, {0, 1001}, {3, -1}, {3, 1001}, {LOW, 0}, {FAR, 0}, {0, LOW}, {0, FAR}, {4, 1001}};
    for (int[] n : none) {
      due("sight(" + n[0] + ", " + n[1] + ")", w.it.sight(n[0], n[1]), -1);
    }
    due("none is told", w.it.count(7), 0);
    due("sight(0, 0)", w.it.sight(0, 0), 0);
    due("sight(3, 1000)", w.it.sight(3, 1000), 1);
    due("sight(0, 13), a HOW that none has", w.it.sight(0, 13), 2);
    due("all are forgotten", w.it.sight(-1, 0), 0);
    due("none is told", w.it.count(7), 0);
    due("the first again", w.it.sight(1, 1), 0);
    for (int how : new int[] {-1, 1001, LOW, FAR}) {
      due("forgotten, whatever the HOW", w.it.sight(-1, how), 0);
      due("none is told", w.it.count(7), 0);
      due("one", w.it.sight(0, 0), 0);
    }
    due("forgotten when none is told", w.it.sight(-1, 0) + w.it.sight(-1, 0), 0);
  }

  private static void sixtySights() {
    says("SIGHTS are told (60 at most): HOPPER and HOW of a DROP, one behind the other, from a SHELF's BOARD on.");
    Works w = new Works().with("put gate 0 1 0;");
    w.it.shelf(0, false);
    for (int i = 0; i < 60; i++) {
      due("its number", w.it.sight(0, i % 2 * 2), i);
    }
    due("60", w.it.count(7), 60);
    due("the 61st", w.it.sight(0, 0), -1);
    due("60 yet", w.it.count(7), 60);
    due("SOUND behind 60", w.it.suspect(0, 0), 0);
    due("the GATE does not stick", w.it.suspect(0, 1), -1);
    due("forgotten", w.it.sight(-1, 0), 0);
    for (int i = 0; i < 59; i++) {
      w.it.sight(0, i % 2 * 2);
    }
    due("the 60th is wrong", w.it.sight(0, 0), 59);
    due("no SUSPECT", w.it.suspect(0, 0), -1);
    due("no test", w.it.test(0), -1);
  }

  private static void suspects() {
    says("if the BOARD, so, would have ended all these DROPS just so.");
    Works w = new Works().with("put gate 0 1 0;put gate 1 4 0;put trap 7 11;put cog 10 0;");
    w.it.shelf(0, false);
    due("SOUND and two GATES", w.it.suspect(0, 0) * 100 + w.it.suspect(0, 1) * 10 + w.it.suspect(0, 2), 25);
    due("no more", w.it.suspect(0, 3), -1);
    w.it.sight(2, 256 + 176);
    w.it.sight(3, 512);
    due("all of them CATCH and JAM", w.it.suspect(0, 2), 5);
    w.it.sight(0, 0);
    due("the first DROP tells nothing", w.it.suspect(0, 2), 5);
    w.it.sight(0, 2);
    due("it flipped", w.it.suspect(0, 0) * 10 + w.it.suspect(0, 1), 5);
    due("two are left", w.it.suspect(0, 2), -1);
    w.it.sight(1, 5);
    w.it.sight(1, 5);
    due("the other sticks", w.it.suspect(0, 0), 5);
    due("one is left", w.it.suspect(0, 1), -1);
    w.it.sight(1, 3);
    due("none is left", w.it.suspect(0, 0), -1);
    w.it.sight(-1, 0);
    due("all again", w.it.suspect(0, 2), 5);
  }

  private static void suspectNone() {
    says("The i-th SUSPECT of a SHELF, by its number; NONE: none such, an empty SHELF.");
    Works w = new Works();
    w.it.shelf(1, false);
    for (int shelf : new int[] {-1, 0, 2, 3, 4, LOW, FAR}) {
      due("suspect(" + shelf + ", 0)", w.it.suspect(shelf, 0), -1);
    }
    due("SOUND alone", w.it.suspect(1, 0), 0);
    for (int i : new int[] {-1, 1, LOW, FAR}) {
      due("suspect(1, " + i + ")", w.it.suspect(1, i), -1);
    }
    due("another SHELF behind it", w.it.suspect(2, 0), -1);
    w.with("put gate 0 12 11;put gate 0 0 0;");
    w.it.shelf(2, false);
    due("by its number", w.it.suspect(2, 1) * 1000 + w.it.suspect(2, 2), 1156);
    due("the first SHELF as it was", w.it.suspect(1, 1), -1);
    w.it.shelf(1, false);
    due("it is filled anew", w.it.suspect(1, 1), 1);
    w.it.takeBack();
    w.it.shelf(1, false);
    due("and once more", w.it.suspect(1, 1), -1);
    due("the other as it was", w.it.suspect(2, 2), 156);
    due("a RUN, a PROGRAM do not reach the SHELF", w.with("put gate 0 4 4;").it.suspect(1, 1), -1);
  }

  private static void firstOfItsTrain() {
    says("and each GATE that is the first of its TRAIN (by PLACES: 13 * row + column; number 1 + that)");
    Works w = new Works().with("put gate 0 5 5;put gate 0 5 4;put gate 0 4 5;put gate 0 6 5;put gate 0 5 6;put gate 0 0 0;put cog 12 11;put gate 0 11 11;");
    w.it.shelf(0, false);
    int[] want = {0, 1, 1 + 13 * 4 + 5, 1 + 13 * 11 + 11, -1};
    for (int i = 0; i < want.length; i++) {
      due("SUSPECT " + i, w.it.suspect(0, i), want[i]);
    }
    // a COG is ahead of both GATES: the first of the GATES
    Works cog = new Works().with("put cog 3 3;put gate 0 3 4;put gate 0 2 4;");
    cog.it.shelf(0, false);
    due("the first GATE", cog.it.suspect(0, 1), 1 + 13 * 4 + 2);
    due("one for the TRAIN", cog.it.suspect(0, 2), -1);
    Works cogs = new Works().with("put cog 3 3;put cog 4 3;put seesaw 0 8 8;put counter 2 9 9;");
    cogs.it.shelf(0, false);
    due("COGS, a SEESAW, a COUNTER are none", cogs.it.suspect(0, 1), -1);
  }

  private static void sticks() {
    says("A GATE STICKS: it and all GATES of its TRAIN never flip.");
    Works w = new Works().with("put gate 0 1 0;put cog 2 0;put cog 3 0;put gate 1 4 0;put gate 0 7 0;");
    w.it.shelf(0, false);
    int[][] stuck = {{0, 0}, {1, 5}, {0, 0}, {1, 5}, {2, 6}, {2, 8}};
    for (int[] s : stuck) {
      w.it.sight(s[0], s[1]);
    }
    due("both GATES of the TRAIN stick", w.it.suspect(0, 0), 2);
    due("no other", w.it.suspect(0, 1), -1);
    w.it.sight(-1, 0);
    int[][] sound = {{0, 0}, {1, 3}, {0, 0}, {1, 3}};
    for (int[] s : sound) {
      w.it.sight(s[0], s[1]);
    }
    due("they flip together", w.it.suspect(0, 0) * 10 + w.it.suspect(0, 1), 8);
  }

  private static void seventeenSuspects() {
    says("SUSPECTS of a SHELF: SOUND (number 0), and each GATE");
    Works w = new Works().with("again 4 by 2 0(again 4 by 0 2(put gate 0 0 0;););");
    w.it.shelf(3, false);
    for (int i = 1; i <= 16; i++) {
      int place = 13 * ((i - 1) / 4 * 2) + (i - 1) % 4 * 2;
      due("SUSPECT " + i, w.it.suspect(3, i), 1 + place);
    }
    due("SOUND", w.it.suspect(3, 0), 0);
    due("no 17th GATE", w.it.suspect(3, 17), -1);
    due("17 of them: the first HOPPER", w.it.test(3), 0);
    Works one = new Works().with("again 4 by 1 0(again 4 by 0 1(put gate 0 0 0;););");
    one.it.shelf(3, false);
    due("16 GATES, one TRAIN", one.it.suspect(3, 1), 1);
    due("no more", one.it.suspect(3, 2), -1);
  }

  private static void bestTest() {
    says("THE BEST TEST: the HOPPER by whose DROP, behind all these, the greatest number of SUSPECTS that end alike is the least; of equal ones the first.");
    Works w = new Works();
    w.it.shelf(0, false);
    due("SOUND alone: all are equal", w.it.test(0), 0);
    for (int hopper = 0; hopper < 4; hopper++) {
      // a GATE that has been gone by once shows whether it sticks
      Works v = new Works().with("put gate 0 " + (3 * hopper + 1) + " 0;");
      v.it.shelf(0, false);
      due("it shows nothing yet", v.it.test(0), 0);
      v.it.sight(hopper, 3 * hopper);
      due("HOPPER " + hopper, v.it.test(0), hopper);
    }
    Works equal = new Works().with("put gate 0 4 0;put gate 0 7 0;put gate 0 10 0;");
    equal.it.shelf(0, false);
    equal.it.sight(3, 9);
    equal.it.sight(2, 6);
    due("2 and 3 are equal", equal.it.test(0), 2);
    equal.it.sight(1, 3);
    due("1, 2 and 3 are equal", equal.it.test(0), 1);
    equal.it.sight(1, 5);
    due("2 and 3 again", equal.it.test(0), 2);
    // HOPPER 3 goes by both GATES, HOPPER 2 by the second alone
    Works three = new Works().with("put gate 0 10 0;put gate 0 11 1;hopper 2 11 2 0;");
    three.it.shelf(0, false);
    three.it.sight(2, 10);
    due("by 2: 2 of 3 alike", three.it.test(0), 2);
    three.it.sight(3, 9);
    due("by 3: all end otherwise", three.it.test(0), 3);
    // two GATES of one TRAIN in one DROP: that it sticks shows at once
    Works once = new Works().with("put gate 0 5 0;put cog 4 0;put gate 0 4 1;hopper 2 5 2 0;");
    once.it.shelf(0, false);
    due("HOPPER 2 at once", once.it.test(0), 2);
    greatestNotMost();
  }

  /** By HOPPER 0 four of six end alike and two each alone, by HOPPER 1 three and three. */
  private static void greatestNotMost() {
    Works w = new Works().with("hopper 0 1 0 0;hopper 1 5 0 0;hopper 2 9 0 0;hopper 3 2 0 0;put gate 0 1 0;put gate 1 2 0;put gate 0 2 4;put gate 0 3 4;"
        + "put gate 0 5 0;put gate 1 9 0;put gate 0 6 3;put gate 1 10 3;put gate 0 7 6;put gate 1 11 6;again 3 by 1 3(again 3 by 1 0(put cog 6 0;););"
        + "again 3 by 1 0(put trap 4 11;);");
    w.it.shelf(0, false);
    due("SOUND and 5 TRAINS", w.it.suspect(0, 5), 1 + 13 * 6 + 7);
    w.it.sight(3, 2);
    w.it.sight(2, 12);
    due("all are left", w.it.suspect(0, 5), 1 + 13 * 6 + 7);
    due("the greatest number is the least", w.it.test(0), 1);
    w.it.sight(0, 3);
    due("SOUND and the TRAINS of HOPPER 1 are left", w.it.suspect(0, 3), 1 + 13 * 6 + 7);
    due("no more", w.it.suspect(0, 4), -1);
    w.it.sight(1, 256 + 176);
    due("the three that were CAUGHT", w.it.suspect(0, 0) * 10000 + w.it.suspect(0, 1) * 100 + w.it.suspect(0, 2), 64686);
    due("no more", w.it.suspect(0, 3), -1);
  }

  private static void testNone() {
    says("THE BEST TEST of a SHELF; NONE: no SUSPECT, an empty SHELF.");
    Works w = new Works();
    w.it.shelf(1, false);
    for (int shelf : new int[] {-1, 0, 2, 3, 4, LOW, FAR}) {
      due("test(" + shelf + ")", w.it.test(shelf), -1);
    }
    due("test(1)", w.it.test(1), 0);
    w.it.sight(0, 2);
    due("no SUSPECT", w.it.test(1), -1);
    w.it.sight(-1, 0);
    due("SOUND again", w.it.test(1), 0);
  }
}
