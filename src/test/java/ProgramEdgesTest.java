/** Terms 2 and the promises about PROGRAMS: of each limit the last input within it and the first one beyond it. */
public final class ProgramEdgesTest {
  private static final String[] WORDS = {"left", "right", "cross", "gate", "trap", "sieve", "counter", "cog", "seesaw", "put", "again", "by",
    "mirror", "let", "use", "lane", "hopper"};

  /** 1 + 12 + 144 + 1728. */
  private static final String LINES_1885 = "again 12 by 0 0(again 12 by 0 0(again 12 by 0 0(mirror 0(););););";

  public static void main(String[] args) {
    fedSigns();
    fullTape();
    taken();
    blanks();
    words();
    numbersAsTokens();
    noTokens();
    longestProgram();
    numbersOfPut();
    numbersOfShifts();
    numbersOfHoppers();
    lineForms();
    noLines();
    outsideAlone();
    names();
    thirtyNames();
    namesTold();
    nested();
    firstWrong();
    endOfText();
    doneInOrder();
    repeats();
    mirrors();
    innermostFirst();
    offTheBoard();
    hasAPiece();
    reasonsInOrder();
    asAhead();
    lines2000();
    linesAsOften();
    takeBack();
    twentyBack();
    Works.end("ProgramEdgesTest");
  }

  private static void says(String quote) {
    Works.says(quote);
  }

  private static void due(String what, long got, long want) {
    Works.due(what, got, want);
  }

  private static void due(String what, boolean got, boolean want) {
    Works.due(what, got, want);
  }

  private static void within(String text) {
    Works.within(text);
  }

  private static void beyond(int kind, String text) {
    Works.beyond(kind, text);
  }

  private static void drawn(String text, int want) {
    due("draw of " + text, new Works().draw(text), want);
  }

  // ---- the TAPE and its TOKENS

  private static void fedSigns() {
    says("Up to 24 signs come behind the TAPE: the bytes of a, b, c, of each the highest first; others than 10 and 32 .. 126, and what is "
        + "beyond 1,000, are left out: how many there are.");
    MarbleWorks x = new MarbleWorks();
    int signs = 0;
    for (int sign = 0; sign < 256; sign++) {
      signs += sign == 10 || sign >= 32 && sign <= 126 ? 1 : 0;
      long a = sign % 3 == 0 ? sign : 0;
      long b = sign % 3 == 1 ? (long) sign << 56 : 0;
      long c = sign % 3 == 2 ? (long) sign << 24 : 0;
      due("feed of sign " + sign, x.feed(a, b, c), signs);
    }
    due("24 signs", new MarbleWorks().feed(0x2020202020202020L, 0x2020202020202020L, 0x2020202020202020L), 24);
    due("none", new MarbleWorks().feed(0, 0, 0), 0);
    due("bytes above 127", new MarbleWorks().feed(-1, Long.MIN_VALUE, 0x8080808080808080L), 0);
    for (int at = 0; at < 24; at++) {
      long[] three = new long[3];
      three[at / 8] = (long) ';' << (56 - 8 * (at % 8));
      due("one sign at " + at, new MarbleWorks().feed(three[0], three[1], three[2]), 1);
    }
    MarbleWorks order = new MarbleWorks();
    order.feed(0x6c00006100006e00L, 0x0000650000203100L, 0x200000320000003bL);
    due("a, b, c, the highest first: lane 1 2;", order.draw(), 0);
    due("its LEVER", order.lever(1), 2);
  }

  private static void fullTape() {
    says("The TAPE has at most 1,000 signs, 10 and 32 .. 126;");
    Works w = new Works();
    due("984", w.feed(" ".repeat(984)), 984);
    due("999", w.feed(" ".repeat(15)), 999);
    due("1000, 23 are left out", w.feed("lane 0 1;lane 0 2;lane 0"), 1000);
    due("1000 yet", w.feed(";;;"), 1000);
    due("count(5)", w.it.count(5), 1000);
    due("the 1000th was the first of them", w.it.draw(), Works.fault(1, 999));
    due("a LINE that ends at the 1000th", w.draw(" ".repeat(991) + "lane 0 1;"), 0);
    due("done", w.it.lever(0), 1);
    due("a LINE that would end at the 1001st", w.draw(" ".repeat(992) + "lane 0 2;"), Works.fault(1, 1000));
    due("not done", w.it.lever(0), 1);
    due("a full TAPE of what is left out", w.it.feed(0x0101010101010101L, 0x7f7f7f7f7f7f7f7fL, -1), 0);
  }

  private static void taken() {
    says("what reads it takes it: it is empty then.");
    Works w = new Works();
    int[] answers = {0, Works.fault(1, 3), -2};
    String[] texts = {"put cog 0 0;", "put", "put cog 0 0;"};
    for (int i = 0; i < 3; i++) {
      due("draw", w.draw(texts[i]), answers[i]);
      due("the TAPE", w.it.count(5), 0);
    }
    due("nothing is left of it", w.draw(""), 0);
    w.feed("lane 0 ");
    w.it.takeBack();
    w.it.shelf(0, false);
    w.it.shelf(0, true);
    due("nothing else takes it", w.it.count(5), 7);
    due("it goes on", w.draw("1;"), 0);
    due("its LEVER", w.it.lever(0), 1);
  }

  private static void blanks() {
    says("TOKENS, each as long as can be, blanks (10, 32) between where one likes:");
    within("lane 0 1;");
    within("lane\n0\n1\n;\n");
    within("  lane   0 \n 1   ; ");
    within("lane0 1;again2by-1-1(mirror0(););let a();use a by0-0;");
    beyond(1, "~la ne 0 1;");
    beyond(1, "lane 01~;");
    due("1 0 is no 10", new Works().draw("put left 1 0;"), 0);
    beyond(1, "lane 1 0 ~0;");
  }

  private static void words() {
    says("WORDS (letters a .. z, 8 at most)");
    within("let a();use a by 0 0;");
    within("let z();use z by 0 0;");
    within("let abcdefgh();let zyxwvuts();use abcdefgh by 0 0;use zyxwvuts by 0 0;");
    within("let zzzzzzzz();let zzzzzzz();let zzzzzzzy();let zzzzzz();");
    beyond(1, "let ~abcdefghi();");
    beyond(1, "let ~zzzzzzzzz();");
    beyond(1, "let abcdefgh();use ~abcdefghi by 0 0;");
    beyond(1, "let abcdefgh();use ~zabcdefgh by 0 0;");
    beyond(2, "let abcdefgh();use ~abcdefg by 0 0;");
    beyond(2, "let abcdefgh();use ~bcdefgh by 0 0;");
    beyond(1, "~" + "x".repeat(1000));
    beyond(1, "put ~" + "left".repeat(20) + " 0 0;");
    beyond(1, "let ~A();");
    beyond(1, "let a~B();");
    beyond(1, "let a~`();");
    beyond(1, "let a~{();");
    beyond(1, "~Put left 0 0;");
    beyond(1, "let a~1();");
  }

  private static void numbersAsTokens() {
    says("NUMBERS (1 to 3 digits; a letter may stand right behind)");
    within("put left 0 0;put left 01 00;put left 002 000;put left 012 011;");
    within("hopper 003 012 003 999;");
    beyond(1, "put left ~0000 0;");
    beyond(1, "put left ~0001 0;");
    beyond(1, "put left 0 ~0011;");
    beyond(1, "hopper 0 0 0 ~0999;");
    beyond(1, "put left ~18446744073709551617 0;");
    beyond(1, "put left ~4294967297 0;");
    beyond(1, "put left ~" + "0".repeat(900) + " 0;");
    within("again 2by 0 0();");
    beyond(1, "again ~0002by 0 0();");
    beyond(1, "put left 0 0~x;");
    beyond(1, "put left 0~x 0;");
    beyond(1, "put left 0~/ 0;");
    beyond(1, "put left 0~: 0;");
  }

  private static void noTokens() {
    says("the signs ( ) - and the semicolon. All else (a longer WORD or NUMBER, too, at its first sign) is none.");
    for (char sign = 32; sign < 127; sign++) {
      if (sign == ' ' || sign == ';') {
        continue;
      }
      drawn("lane 0 0 " + sign + ";", Works.fault(1, 9));
      boolean letter = sign >= 'a' && sign <= 'z';
      drawn("let " + sign + "();", letter ? 0 : Works.fault(1, 4));
      drawn(sign + "lane 0 0;", Works.fault(1, 0));
    }
    within("lane 0 0  ;");
    within("lane 0 0\n;");
    beyond(1, "lane 0 0;~;");
    within("again 1 by - 1 -\n1 ( ) ;");
    beyond(1, "again 1 by -~-1 0();");
    beyond(1, "again 1 by ~+1 0();");
  }

  /** 125 LINES of 8 signs are the most that a TAPE can have. */
  private static void longestProgram() {
    says("PROGRAM: any number of LINES.");
    Works w = new Works();
    due("125 LINES", w.draw("lane0 1;".repeat(124) + "lane0 2;"), 0);
    due("the last was done", w.it.lever(0), 2);
    due("none", w.draw(""), 0);
    due("124 and a let", w.draw("lane0 3;".repeat(124) + "let a();"), 0);
    due("the last was done", w.it.lever(0), 3);
    due("124 and a let that is open", w.draw("lane0 1;".repeat(124) + "let a(by"), Works.fault(1, 998));
    due("124 and a mirror that is open", w.draw("lane0 1;".repeat(124) + "mirror0("), Works.fault(1, 1000));
    due("500 words", w.draw("a ".repeat(500)), Works.fault(1, 0));
    due("1000 TOKENS", w.draw(";".repeat(1000)), Works.fault(1, 0));
    due("1000 TOKENS", w.draw("()-;".repeat(250)), Works.fault(1, 0));
    due("as it was", w.it.lever(0), 3);
  }

  // ---- what LINES are made of

  private static void numbersOfPut() {
    says("C 0 to 12, R 0 to 11, H 0 to 3 (lane: 4 is none), K 0 to 3, N of hopper 0 to 999, of counter 2 to 9, of again 1 to 12, of S 0 to 12, B 0 or 1.");
    for (String piece : new String[] {"left", "right", "cross", "trap", "cog", "gate 0", "gate 1", "sieve 0", "sieve 3", "counter 2", "counter 9",
      "seesaw 0", "seesaw 1"}) {
      within("put " + piece + " 0 0;put " + piece + " 12 11;");
      beyond(4, "put " + piece + " ~13 0;");
      beyond(4, "put " + piece + " 0 ~12;");
      beyond(4, "put " + piece + " ~999 0;");
      beyond(4, "put " + piece + " 0 ~999;");
      beyond(1, "put " + piece + " ~-1 0;");
      beyond(1, "put " + piece + " 0 ~-1;");
      beyond(1, "put " + piece + " 0 0 ~0;");
      beyond(1, "put " + piece + " 0~;");
    }
    beyond(4, "put gate ~2 0 0;");
    beyond(4, "put seesaw ~2 0 0;");
    beyond(4, "put sieve ~4 0 0;");
    beyond(4, "put counter ~0 0 0;");
    beyond(4, "put counter ~1 0 0;");
    beyond(4, "put counter ~10 0 0;");
    beyond(4, "put counter ~999 0 0;");
    for (String piece : new String[] {"gate", "seesaw", "sieve", "counter"}) {
      beyond(1, "put " + piece + " ~-1 0 0;");
      beyond(1, "put " + piece + " 2 0~;".replace("2", piece.equals("gate") || piece.equals("seesaw") ? "1" : "2"));
    }
  }

  private static void numbersOfShifts() {
    says("of again 1 to 12, of S 0 to 12,");
    within("again 1 by 0 0();again 12 by 12 12();again 1 by -12 -12();again 12 by -0 - 0();");
    beyond(4, "again ~0 by 0 0();");
    beyond(4, "again ~13 by 0 0();");
    beyond(1, "again ~-1 by 0 0();");
    beyond(1, "again ~by 0 0();");
    beyond(4, "again 1 by ~13 0();");
    beyond(4, "again 1 by 0 ~13();");
    beyond(4, "again 1 by -~13 0();");
    beyond(4, "again 1 by 0 -~13();");
    within("let a();use a by 0 0;use a by 12 12;use a by -12 -12;");
    beyond(4, "let a();use a by ~13 0;");
    beyond(4, "let a();use a by 0 ~13;");
    beyond(4, "let a();use a by -~13 0;");
    beyond(4, "let a();use a by 0 -~13;");
    within("mirror 0();mirror 12();");
    beyond(4, "mirror ~13();");
    beyond(1, "mirror ~-1();");
    beyond(1, "mirror ~();");
  }

  private static void numbersOfHoppers() {
    says("C 0 to 12, R 0 to 11, H 0 to 3 (lane: 4 is none), K 0 to 3, N of hopper 0 to 999,");
    within("lane 0 0;lane 12 0;lane 0 3;lane 12 4;");
    beyond(4, "lane ~13 0;");
    beyond(4, "lane 0 ~5;");
    beyond(1, "lane ~-1 0;");
    beyond(1, "lane 0 ~-1;");
    within("hopper 0 0 0 0;hopper 3 12 3 999;");
    beyond(4, "hopper ~4 0 0 0;");
    beyond(4, "hopper 0 ~13 0 0;");
    beyond(4, "hopper 0 0 ~4 0;");
    beyond(1, "hopper 0 0 0 ~1000;");
    beyond(1, "hopper 0 0 0 ~-1;");
    beyond(1, "hopper 0 0 0~;");
    beyond(1, "hopper 0 0 0 0 ~0;");
  }

  private static final String[] FORMS = {"put left 1 1 ;", "put right 1 1 ;", "put cross 1 1 ;", "put gate 1 1 1 ;", "put trap 1 1 ;", "put sieve 1 1 1 ;",
    "put counter 2 1 1 ;", "put cog 1 1 ;", "put seesaw 1 1 1 ;", "again 1 by 1 1 ( ) ;", "again 1 by - 1 - 1 ( ) ;", "mirror 1 ( ) ;", "let a ( ) ;",
    "use n by 1 1 ;", "use n by - 1 - 1 ;", "lane 1 1 ;", "hopper 1 1 1 1 ;"};

  /** Each TOKEN of each LINE in turn made another one that can't stand there. */
  private static void lineForms() {
    says("LINE: put PIECE C R ; again N by S S ( LINES ) ; mirror C ( LINES ) ; let NAME ( LINES ) ; use NAME by S S ; lane C H ; hopper H C K N ; "
        + "PIECE: left, right, cross, gate B, trap, sieve K, counter N, cog, seesaw B. S: N, or - N.");
    for (String form : FORMS) {
      within("let n ( ) ; " + form);
      within("let n();" + form.replace(" ;", ";").replace(" ( )", "()"));
    }
    says("1 it is none, or can't stand there (let, lane, hopper within ( ), too);");
    String[] others = (String.join(" ", WORDS) + " zz 1 ( ) - ; # Z abcdefghi 1000").split(" ");
    for (String form : FORMS) {
      String[] tokens = form.split(" ");
      int place = "let n ( ) ; ".length();
      for (int at = 0; at < tokens.length; at++) {
        for (String other : others) {
          if (!canStand(tokens, at, other)) {
            drawn("let n ( ) ; " + form.substring(0, place - 12) + other + " " + form.substring(place - 12 + tokens[at].length()), Works.fault(1, place));
          }
        }
        place += tokens[at].length() + 1;
      }
    }
  }

  private static boolean canStand(String[] tokens, int at, String other) {
    String now = tokens[at];
    boolean number = Character.isDigit(now.charAt(0));
    if (other.equals(now) || at == 0 && "put again mirror let use lane hopper".contains(other)) {
      return true;
    }
    if (number || now.equals("-")) {
      boolean shift = at > 1 && !tokens[at - 1].equals("-") && String.join(" ", tokens).indexOf(" by ") > 0;
      return other.equals("1") || other.equals("-") && shift;
    }
    if (now.equals(")")) {
      return "put again mirror use".contains(other);
    }
    boolean name = tokens[0].equals("let") || tokens[0].equals("use");
    return at == 1 && (name ? other.equals("zz") : tokens[0].equals("put") && "left right cross gate trap sieve counter cog seesaw".contains(other));
  }

  private static void noLines() {
    says("(LINES: any number, none, too.)");
    within("");
    within(" ");
    within("again 12 by 0 0();mirror 0();let a();use a by 0 0;");
    within("again 1 by 0 0(mirror 0(again 1 by 0 0(mirror 0(););););");
    within("mirror 6(put cog 0 0;again 1 by 0 0();mirror 0(););");
    beyond(1, "mirror 0(~;);");
    beyond(1, "mirror 0()~");
    beyond(1, "mirror 0()~)");
    beyond(1, "mirror 0();~)");
    beyond(1, "mirror 0~;");
    beyond(1, "mirror 0(~();");
  }

  private static void outsideAlone() {
    says("let stands outside of all ( ) alone; hopper and lane, too.");
    String[] around = {"mirror 0(", "again 1 by 0 0(", "let b("};
    String[] lines = {"let a();", "lane 0 0;", "hopper 0 0 0 0;"};
    for (String line : lines) {
      within(line);
      for (String open : around) {
        within(open + ");" + line);
        beyond(1, open + "~" + line + ");");
        within(line.replace("let a", "let c") + open + ");");
      }
    }
    beyond(1, "let b(mirror 0();mirror 0(mirror 0();~lane 0 0;););");
    within("let b(mirror 0();mirror 0(mirror 0();););lane 0 0;");
  }

  private static void names() {
    says("NAMES are other WORDS than all those above, each told once;");
    for (String word : WORDS) {
      beyond(1, "let ~" + word + "();");
      beyond(1, "use ~" + word + " by 0 0;");
      within("let " + word.substring(1) + "x();");
      within("let " + word.substring(0, word.length() - 1) + "();");
      String longer = word + "s";
      if (longer.length() <= 8) {
        within("let " + longer + "();use " + longer + " by 0 0;");
      }
    }
    within("let none();let end();let name();let line();let lines();let piece();let hoppers();");
    beyond(1, "put ~none 0 0;");
    within("let a();let b();");
    beyond(3, "let a();let ~a();");
    beyond(3, "let a();let b();let ~a();");
    beyond(3, "let abcdefgh();let ~abcdefgh();");
    within("let a();let aa();let aaa();let ab();");
    beyond(1, "let ~;");
    beyond(1, "let ~0();");
    beyond(1, "let ~();");
    beyond(1, "use ~by 0 0;");
  }

  private static String lets(int n) {
    StringBuilder b = new StringBuilder();
    for (int i = 0; i < n; i++) {
      b.append("let ").append(nameOf(i)).append("();");
    }
    return b.toString();
  }

  private static String nameOf(int i) {
    return "" + (char) ('a' + i / 26) + (char) ('a' + i % 26);
  }

  private static void thirtyNames() {
    says("30 NAMES at most.");
    within(lets(29));
    within(lets(30));
    beyond(5, lets(30) + "~let zz();");
    beyond(5, lets(30) + "~" + lets(1));
    beyond(5, lets(30) + "~let");
    beyond(5, lets(30) + "~let ;");
    beyond(1, lets(30) + "mirror 0(~let zz(););");
    for (int i = 0; i < 30; i++) {
      within(lets(30) + "use " + nameOf(i) + " by 0 0;");
    }
    beyond(2, lets(30) + "use ~" + nameOf(30) + " by 0 0;");
    beyond(3, lets(29) + "let ~" + nameOf(28) + "();");
    Works w = new Works();
    for (int i = 0; i < 3; i++) {
      due("30 in each PROGRAM", w.draw(lets(30)), 0);
    }
    says("(NAMES hold for their PROGRAM alone.)");
    due("none of them is told now", w.draw("use " + nameOf(0) + " by 0 0;"), Works.fault(2, 4));
    due("nor behind a FAULT", w.draw("let a();put"), Works.fault(1, 11));
    due("nor behind a FAULT", w.draw("use a by 0 0;"), Works.fault(2, 4));
  }

  private static void namesTold() {
    says("use: of a NAME told ahead (not within its own LINES).");
    within("let a();use a by 0 0;");
    within("let a();let b(use a by 0 0;);use b by 0 0;");
    within("let a();again 1 by 0 0(mirror 0(use a by 0 0;););");
    beyond(2, "use ~a by 0 0;let a();");
    says("2 a NAME that is not told (by its whole line); 3 a NAME that is told;");
    beyond(2, "let a(use ~a by 0 0;);");
    beyond(2, "let a(mirror 0(use ~a by 0 0;););");
    beyond(2, "let a(use ~b by 0 0;);let b();");
    beyond(2, "use ~a");
    beyond(2, "use ~a 0 0;");
    beyond(3, "let a();let ~a");
    beyond(3, "let a();let ~a(use a by 0 0;);");
    beyond(1, "let a()~use a by 0 0;");
  }

  private static void nested() {
    says("4 of again and mirror within one another at most, in let, too.");
    for (int kinds = 0; kinds < 16; kinds++) {
      StringBuilder four = new StringBuilder();
      for (int i = 0; i < 4; i++) {
        four.append((kinds >> i & 1) == 0 ? "mirror 6(" : "again 1 by 0 0(");
      }
      String closed = ");".repeat(4);
      within(four + closed);
      within(four + "put cog 0 0;" + closed);
      within("let a(" + four + closed + ");use a by 0 0;");
      within("let a(" + four + closed + ");" + four + "use a by 0 0;" + closed);
      says("5 one too many: the words again, mirror within 4 others; the word let of the 31st.");
      beyond(5, four + "~again 1 by 0 0();" + closed);
      beyond(5, four + "~mirror 6();" + closed);
      beyond(5, "let a(" + four + "~again 1 by 0 0();" + closed + ");");
      beyond(5, "let a(" + four + "~mirror");
      within(four + ");mirror 0();again 1 by 0 0();" + ");".repeat(3));
      within(four + closed + "mirror 0();" + four + closed);
      beyond(5, "let a(" + four + closed + ");" + four + "~mirror 0();");
    }
    within("mirror 0(mirror 0(mirror 0();mirror 0(mirror 0(););););");
  }

  private static void firstWrong() {
    says("FAULTS, kind + 16 * the place (from 0) of a token, the end being one at the text's length: of the first token from the left that is wrong the least:");
    beyond(1, "put ~2left 0 0;");
    beyond(4, "put left ~13 12;");
    beyond(4, "put left 0 ~12#");
    beyond(1, "put left 0 ~#12");
    beyond(4, "lane ~13 9;let a();let a();");
    beyond(3, "let a();let ~a();use b by 0 0;");
    beyond(2, "let a();use ~b by 13 0;let a();");
    beyond(1, "~13 put left 13 13;");
    beyond(1, "~x");
    beyond(1, "   ~x");
    beyond(4, "put cog 0 0;put cog 0 0;lane ~13 0;");
    beyond(1, "mirror 0(~lane 13 0;);");
    beyond(1, lets(30) + "mirror 0(mirror 0(mirror 0(mirror 0(~let");
    says("4 a NUMBER that is not as told;");
    beyond(4, "again ~0 to");
    beyond(1, "again 1 ~to");
  }

  private static void endOfText() {
    says("the end being one at the text's length:");
    String line = "hopper 0 0 0 0;";
    for (String cut : new String[] {"hopper", "hopper 0", "hopper 0 0", "hopper 0 0 0", "hopper 0 0 0 0"}) {
      beyond(1, cut + "~");
      beyond(1, cut + "  \n~");
    }
    within(line + "  ");
    String[] starts = {"put", "put gate", "put gate 1", "put gate 1 0", "put gate 1 0 0", "again", "again 1", "again 1 by", "again 1 by -",
      "again 1 by 0", "again 1 by 0 -", "again 1 by 0 0", "again 1 by 0 0(", "again 1 by 0 0()", "mirror", "mirror 0", "mirror 0(", "mirror 0()",
      "let", "let a", "let a(", "let a()", "use", "let a();use a", "let a();use a by", "let a();use a by 0", "let a();use a by 0 0", "lane", "lane 0",
      "lane 0 0", "put sieve", "put counter", "put seesaw", "put left", "put left 0", "put left 0 0"};
    for (String start : starts) {
      beyond(1, start + "~");
      beyond(1, start + " ".repeat(1000 - start.length()) + "~");
      beyond(1, start + "~#");
    }
  }

  // ---- what PROGRAMS do

  private static void doneInOrder() {
    says("The TAPE is a PROGRAM that is done: 0; its FAULT; a REASON why it can't be, negative (-1 to -4).");
    drawn("put cog 0 0;", 0);
    drawn("put cog 0 0;put", Works.fault(1, 15));
    drawn("mirror 0(put cog 1 0;);", -1);
    drawn("put cog 0 0;put cog 0 0;", -2);
    drawn("again 12 by 1 0(put gate 0 0 0;put gate 0 0 1;);", -3);
    drawn(LINES_1885 + LINES_1885, -4);
    due("a FAULT ahead of a REASON", new Works().draw("put cog 0 0;put cog 0 0;x"), Works.fault(1, 24));
    says("A PROGRAM without a FAULT is done LINE by LINE; what stands within ( ) likewise.");
    Works w = new Works().with("lane 0 0;lane 0 1;lane 0 2;hopper 0 1 1 1;hopper 0 2 2 2;");
    due("the last LEVER", w.it.lever(0), 2);
    due("the last HOPPER", w.hopper(0, 0) * 100 + w.hopper(0, 1) * 10 + w.hopper(0, 2), 222);
    drawn("put cog 0 0;again 1 by 0 0(put cog 0 0;);", -2);
    says("put: the PIECE at its PLACE, as it is moved and mirrored then.");
    due("as it is", new Works().with("put left 12 11;").it.piece(12, 11), 1);
    due("moved", new Works().with("again 2 by 0 1(put left 12 10;);").it.piece(12, 11), 1);
    due("mirrored", new Works().with("mirror 6(put left 0 11;);").it.piece(12, 11), 2);
  }

  private static void repeats() {
    says("again: its LINES N times, the k-th time (from 0) moved by k * the first S columns, k * the second S rows.");
    Works one = new Works().with("again 1 by 12 12(put cog 3 3;);");
    due("once", one.it.count(0) * 10 + one.it.piece(3, 3), 18);
    Works twelve = new Works().with("again 12 by 1 0(put trap 0 0;);");
    due("12 times", twelve.it.count(0), 12);
    due("the 12th", twelve.it.piece(11, 0) * 10 + twelve.it.piece(12, 0), 50);
    Works back = new Works().with("again 12 by -1 -1(put trap 12 11;);");
    due("12 times back", back.it.count(0), 12);
    due("the 12th", back.it.piece(1, 0) * 10 + back.it.piece(0, 0), 50);
    Works far = new Works().with("again 2 by 12 0(put trap 0 0;);again 2 by -12 0(put trap 12 1;);again 2 by 0 11(put cog 5 0;);");
    due("by 12", far.it.piece(12, 0) * 100 + far.it.piece(0, 1) * 10 + far.it.piece(5, 11), 558);
    Works down = new Works().with("again 12 by 0 1(put trap 12 0;);");
    due("12 rows", down.it.piece(12, 11), 5);
    Works none = new Works();
    due("moved by nothing", none.draw("again 2 by 0 0(put cog 0 0;);"), -2);
    due("columns first, rows second", new Works().with("again 3 by 1 2(put cog 0 0;);").it.piece(2, 4), 8);
  }

  private static void mirrors() {
    says("mirror: its LINES once, not as they are too, but with columns 2 * C - c for c; LEFT and RIGHT, what a GATE or a SEESAW shows, are changed over.");
    for (int c = 0; c <= 12; c++) {
      Works w = new Works().with("mirror 6(put left " + c + " 4;);");
      due("mirrored at 6", w.it.piece(12 - c, 4), 2);
      due("not as it is too", w.it.count(0), 1);
    }
    due("at 0", new Works().with("mirror 0(put right 0 0;);").it.piece(0, 0), 1);
    due("at 12", new Works().with("mirror 12(put right 12 0;);").it.piece(12, 0), 1);
    drawn("mirror 0(put right 1 0;);", -1);
    drawn("mirror 12(put right 11 0;);", -1);
    Works w = new Works().with("mirror 6(put gate 0 0 0;put gate 1 2 0;put seesaw 0 4 0;put seesaw 1 6 0;);");
    due("GATES", w.it.shows(12, 0) * 10 + w.it.shows(10, 0), 10);
    due("SEESAWS", w.it.shows(8, 0) * 10 + w.it.shows(6, 0), 10);
    says("(A SIEVE, a COUNTER, a CROSS stay as they are.)");
    Works v = new Works().with("mirror 6(put sieve 0 0 0;put sieve 1 1 0;put sieve 3 2 0;put counter 2 3 0;put counter 3 4 0;put cross 5 0;put trap 6 0;put cog 7 0;)"
        + ";hopper 0 9 0 9;hopper 2 8 0 9;");
    due("SIEVES", v.it.shows(12, 0) * 100 + v.it.shows(11, 0) * 10 + v.it.shows(10, 0), 13);
    due("PIECES", v.it.piece(9, 0) * 10000 + v.it.piece(8, 0) * 1000 + v.it.piece(7, 0) * 100 + v.it.piece(6, 0) * 10 + v.it.piece(5, 0), 77358);
    v.run(0, 1);
    v.run(2, 2);
    due("COUNTERS of 2 and 3", v.tries(0) * 100 + v.tries(2), 1009);
  }

  private static void innermostFirst() {
    says("use: the LINES of the NAME, moved. Moves and mirrors within one another: the innermost first.");
    due("moved, then mirrored", new Works().with("mirror 5(again 2 by 2 1(put left 0 0;););").it.piece(8, 1), 2);
    due("mirrored, then moved", new Works().with("again 2 by 2 1(mirror 4(put left 0 0;););").it.piece(10, 1), 2);
    due("used, then mirrored", new Works().with("let a(put left 0 0;);mirror 5(use a by 3 1;);").it.piece(7, 1), 2);
    due("mirrored, then used", new Works().with("let a(mirror 4(put left 0 0;););use a by 3 1;").it.piece(11, 1), 2);
    due("mirrored twice", new Works().with("mirror 6(mirror 4(put left 3 0;););").it.piece(7, 0), 1);
    Works four = new Works().with("again 2 by 1 2(mirror 6(again 2 by 1 1(mirror 3(put gate 0 2 0;););););");
    int[][] places = {{8, 0}, {7, 1}, {9, 2}, {8, 3}};
    for (int[] at : places) {
      due("four of them", four.it.shows(at[0], at[1]), 0);
    }
    Works edge = new Works().with("let a(put cog 12 11;);let b(put cog 0 0;);use a by -12 -11;use b by 12 11;");
    due("from edge to edge", edge.it.piece(0, 0) * 10 + edge.it.piece(12, 11), 88);
    due("off the BOARD and back", new Works().with("let a(put cog 12 0;);let b(use a by 12 0;);use b by -12 5;").it.piece(12, 5), 8);
  }

  private static void offTheBoard() {
    says("REASONS why it can't be done, of the first put that can't: 1 its PLACE is off the BOARD; 2 it has a PIECE; 3 it would be the 17th MOVING one;");
    String[] off = {"put cog 12 5;|by 1 0", "put cog 0 5;|by -1 0", "put cog 5 11;|by 0 1", "put cog 5 0;|by 0 -1"};
    String[] on = {"put cog 11 5;|by 1 0", "put cog 1 5;|by -1 0", "put cog 5 10;|by 0 1", "put cog 5 1;|by 0 -1"};
    for (int i = 0; i < 4; i++) {
      String[] o = off[i].split("\\|");
      String[] w = on[i].split("\\|");
      within("again 2 " + w[1] + "(" + w[0] + ");");
      drawn("again 2 " + o[1] + "(" + o[0] + ");", -1);
      within("let a(" + w[0] + ");use a " + w[1] + ";");
      drawn("let a(" + o[0] + ");use a " + o[1] + ";", -1);
    }
    within("mirror 3(put cog 6 0;);");
    drawn("mirror 3(put cog 7 0;);", -1);
    within("mirror 9(put cog 6 0;);");
    drawn("mirror 9(put cog 5 0;);", -1);
    drawn("let a(put cog 12 0;);again 12 by 12 12(use a by 12 12;);", -1);
  }

  private static void hasAPiece() {
    says("2 it has a PIECE;");
    for (String word : new String[] {"left", "right", "cross", "gate 0", "trap", "sieve 0", "counter 2", "cog", "seesaw 0"}) {
      Works w = new Works().with("put " + word + " 0 0;put " + word + " 12 11;");
      due("on " + word, w.draw("put cog 0 0;"), -2);
      due(word, w.draw("put " + word + " 12 11;"), -2);
      due("beside it", w.draw("put " + word + " 1 0;put " + word + " 11 11;"), 0);
      w.it.takeBack();
      w.it.takeBack();
      due("where none is any more", w.draw("put cog 0 0;put cog 12 11;"), 0);
    }
  }

  private static void reasonsInOrder() {
    says("of the first put that can't:");
    String sixteen = "again 8 by 1 0(put gate 0 0 0;put gate 0 0 2;);";
    Works w = new Works().with(sixteen + "put cog 5 5;");
    due("off, ahead of the 17th", w.draw("mirror 0(put gate 0 1 9;);"), -1);
    due("has a PIECE, ahead of the 17th", w.draw("put gate 0 5 5;"), -2);
    due("the 17th", w.draw("put gate 0 6 5;"), -3);
    due("the first: off", w.draw("mirror 0(put cog 1 9;);put cog 5 5;put gate 0 9 9;"), -1);
    due("the first: has a PIECE", w.draw("put cog 5 5;put gate 0 9 9;mirror 0(put cog 1 9;);"), -2);
    due("the first: the 17th", w.draw("put gate 0 9 9;mirror 0(put cog 1 9;);put cog 5 5;"), -3);
    due("in time, not in text", w.draw("let a(put cog 5 5;);put gate 0 9 9;use a by 0 0;"), -3);
  }

  private static void asAhead() {
    says("Then all is as it was ahead of it.");
    Works w = new Works().with("put gate 0 1 0;put cog 2 0;put gate 1 3 0;put counter 5 7 0;hopper 0 1 2 50;hopper 2 7 0 9;lane 0 0;lane 2 0;");
    w.it.run(0, 3);
    w.run(2, 2);
    String[] texts = {"put gate 1 2 1;put cog 0 0;lane 0 3;lane 5 1;hopper 0 9 1 999;hopper 1 2 2 2;put cog 1 0;",
      "lane 0 3;hopper 0 9 1 999;put cog 4 0;mirror 0(put gate 0 1 0;);",
      "lane 0 3;hopper 0 9 1 999;again 12 by 1 0(put gate 0 0 5;);again 12 by 1 0(put gate 0 0 7;);",
      "lane 0 3;hopper 0 9 1 999;put cog 4 0;" + LINES_1885 + LINES_1885};
    for (int i = 0; i < 4; i++) {
      due("draw", w.draw(texts[i]), i == 0 ? -2 : i == 1 ? -1 : -i - 1);
      due("PIECES", w.it.count(0) * 10 + w.it.count(1), 43);
      due("what MOVES", w.it.shows(1, 0) * 100 + w.it.shows(3, 0) * 10 + w.it.shows(7, 0), 102);
      due("TRAINS", w.it.train(3, 0) * 10 + w.it.count(2), 11);
      due("COG", w.it.piece(4, 0) + w.it.piece(0, 0) + w.it.piece(2, 1) + w.it.piece(0, 5), 0);
      due("LEVERS", w.it.count(8) * 10 + w.it.lever(0), 20);
      due("HOPPERS", w.hopper(0, 0) * 10000 + w.hopper(0, 1) * 1000 + w.hopper(0, 2), 12047);
      due("HOPPER 1", w.hopper(1, 0) * 100 + w.hopper(1, 1) * 10 + w.hopper(1, 2), 410);
      due("PROGRAMS, puts", w.it.count(4) * 10 + w.it.count(9), 14);
      due("it drops as it did", w.tries(0), 2);
    }
  }

  /** A PROGRAM of n LINES, 1996 at least, that does nothing; then comes more. */
  private static String lines(int n) {
    String most = "let n();" + LINES_1885.replace("mirror 0()", "use n by 0 0");
    String more = "again 9 by 0 0(again 11 by 0 0(mirror 0();););";
    return most + more + "lane 1 4;".repeat(n - 1995);
  }

  private static void lines2000() {
    says("4 (also in place of 1 to 3 at the same LINE) more than 2000 LINES are done,");
    within(lines(1999));
    within(lines(2000));
    drawn(lines(2001), -4);
    String[] one = {"put cog 0 0;", "again 1 by 0 0();", "again 12 by 0 0();", "mirror 0();", "use n by 0 0;", "lane 0 0;", "hopper 0 0 0 0;", "let x();",
      "let x(put cog 0 0;);"};
    for (String line : one) {
      within(lines(1999) + line);
      drawn(lines(2000) + line, -4);
    }
    String[] two = {"again 1 by 0 0(put cog 0 0;);", "mirror 0(put cog 0 0;);", "let x();use x by 0 0;", "again 1 by 0 0(mirror 0(););"};
    for (String lines : two) {
      within(lines(1998) + lines);
      drawn(lines(1999) + lines, -4);
    }
    String[] bad = {"put cog 5 5;", "mirror 0(put cog 1 0;);", "again 2 by 0 0(put cog 5 6;);"};
    int[] length = {1, 2, 3};
    int[] reason = {-2, -1, -2};
    for (int i = 0; i < 3; i++) {
      Works w = new Works().with("put cog 5 5;");
      due("at LINE 2000", w.draw(lines(2000 - length[i]) + bad[i] + "lane 0 0;"), reason[i]);
      due("at LINE 2001", w.draw(lines(2001 - length[i]) + bad[i]), -4);
    }
    Works full = new Works().with("again 8 by 1 0(put gate 0 0 0;put gate 0 0 2;);");
    due("the 17th at LINE 2000", full.draw(lines(1999) + "put gate 0 9 9;"), -3);
    due("the 17th at LINE 2001", full.draw(lines(2000) + "put gate 0 9 9;"), -4);
    due("a put that can't far ahead", new Works().draw("put cog 0 0;put cog 0 0;" + lines(2001)), -2);
    Works anew = new Works();
    due("2000", anew.draw(lines(2000)), 0);
    due("of each PROGRAM", anew.draw(lines(2000)), 0);
    due("2001", anew.draw(lines(2001)), -4);
    due("2000", anew.draw(lines(2000)), 0);
  }

  private static void linesAsOften() {
    says("each as often as it is (put, again, mirror, use, lane, hopper, let; those within ( ) of a let as they are used).");
    String big = "let a(" + LINES_1885 + ");";
    within(big);
    within(big + "use a by 0 0;");
    drawn(big + "use a by 0 0;use a by 0 0;", -4);
    // 1887 with the let and its use: 113 more, the 114th is one too many
    within(big + "use a by 0 0;" + "again 10 by 0 0(again 10 by 0 0(mirror 0(););); lane 0 4;lane 0 4;");
    drawn(big + "use a by 0 0;" + "again 10 by 0 0(again 10 by 0 0(mirror 0(););); lane 0 4;lane 0 4;lane 0 4;", -4);
    // 2 to the 11th uses: each NAME uses the one ahead twice
    StringBuilder doubled = new StringBuilder("let aa();");
    for (int i = 1; i <= 10; i++) {
      doubled.append("let ").append(nameOf(i)).append("(use ").append(nameOf(i - 1)).append(" by 0 0;use ").append(nameOf(i - 1)).append(" by 0 0;);");
    }
    within(doubled.toString());
    within(doubled + "use " + nameOf(8) + " by 0 0;");
    within(doubled + "use " + nameOf(9) + " by 0 0;");
    drawn(doubled + "use " + nameOf(10) + " by 0 0;", -4);
    within(LINES_1885 + "again 10 by 0 0(again 10 by 0 0(mirror 0(););); lane 0 4;lane 0 4;lane 0 4;lane 0 4;");
    drawn(LINES_1885 + "again 10 by 0 0(again 10 by 0 0(mirror 0(););); lane 0 4;lane 0 4;lane 0 4;lane 0 4;lane 0 4;", -4);
    drawn(LINES_1885 + LINES_1885, -4);
  }

  // ---- TAKEN BACK

  private static void takeBack() {
    says("The latest PROGRAM that is left is TAKEN BACK: true; false: there is none.");
    Works w = new Works();
    due("there is none", w.it.takeBack(), false);
    due("a FAULT is none", w.draw("x"), Works.fault(1, 0));
    due("there is none", w.it.takeBack(), false);
    due("what can't be done is none", w.draw("mirror 0(put cog 1 0;);"), -1);
    due("there is none", w.it.takeBack(), false);
    due("an empty one is one", w.draw(""), 0);
    due("there is one", w.it.takeBack(), true);
    due("there is none", w.it.takeBack(), false);
    says("PIECES, LEVERS, HOPPERS are as ahead of it, all that MOVES, too.");
    w.with("put gate 0 1 0;put counter 4 4 0;put seesaw 0 7 0;hopper 0 1 0 9;hopper 1 4 1 9;hopper 2 7 2 9;lane 5 2;");
    w.run(0, 1);
    w.run(1, 2);
    w.run(2, 1);
    w.with("put cog 2 0;put gate 0 3 0;lane 5 4;lane 6 1;hopper 0 12 3 999;");
    w.with("hopper 1 4 1 99;");
    w.run(1, 1);
    w.run(2, 3);
    w.with("hopper 0 1 0 99;");
    w.run(0, 3);
    for (int i = 0; i < 3; i++) {
      due("takeBack", w.it.takeBack(), true);
    }
    due("PIECES", w.it.count(0) * 10 + w.it.piece(2, 0), 30);
    due("MOVING ones", w.it.count(1), 3);
    due("TRAIN", w.it.train(1, 0), 1);
    due("what MOVES", w.it.shows(1, 0) * 100 + w.it.shows(4, 0) * 10 + w.it.shows(7, 0), 121);
    due("LEVERS", w.it.lever(5) * 10 + w.it.lever(6), 19);
    due("HOPPER 0", w.hopper(0, 0) * 100 + w.hopper(0, 1) * 10 + w.hopper(0, 2), 108);
    due("STOCKS", w.hopper(1, 2) * 10 + w.hopper(2, 2), 78);
    due("takeBack", w.it.takeBack(), true);
    due("nothing", w.it.count(0) + w.it.count(1) + w.it.count(8) + w.hopper(0, 2), 0);
    due("there is none", w.it.takeBack(), false);
  }

  private static void twentyBack() {
    says("What was done by PROGRAMS can be TAKEN BACK, the latest first, 20 at most (the oldest can't any more then):");
    for (int programs = 19; programs <= 22; programs++) {
      Works w = new Works();
      for (int i = 0; i < programs; i++) {
        w.with("put cog " + i % 13 + " " + i / 13 + ";");
      }
      due("count(4)", w.it.count(4), Math.min(20, programs));
      for (int left = programs - 1; left >= programs - Math.min(20, programs); left--) {
        due("takeBack", w.it.takeBack(), true);
        due("PIECES", w.it.count(0), left);
        due("the latest first", w.it.piece(left % 13, left / 13), 0);
      }
      due("no more", w.it.takeBack(), false);
      due("PIECES of the oldest", w.it.count(0), Math.max(0, programs - 20));
      w.with("put cog 12 11;");
      due("one again", w.it.count(4), 1);
      due("takeBack", w.it.takeBack(), true);
      due("PIECES of the oldest", w.it.count(0), Math.max(0, programs - 20));
    }
    Works many = new Works();
    for (int i = 0; i < 66; i++) {
      many.with("put cog " + i % 13 + " " + i / 13 + ";");
    }
    for (int left = 65; left >= 46; left--) {
      due("20 of 66", many.it.takeBack(), true);
      due("PIECES", many.it.count(0), left);
    }
    due("no 21st", many.it.takeBack(), false);
    for (int i = 46; i < 76; i++) {
      many.with("put cog " + i % 13 + " " + i / 13 + ";");
      due("30 more", many.it.count(4), Math.min(20, i - 45));
    }
    for (int left = 75; left >= 56; left--) {
      due("20 of 30", many.it.takeBack(), true);
      due("PIECES", many.it.count(0), left);
    }
    due("no 21st", many.it.takeBack(), false);
    Works full = new Works();
    for (int i = 0; i < 20; i++) {
      full.with("lane " + i % 13 + " " + i % 4 + ";");
    }
    due("a FAULT takes none of the 20", full.draw("x"), Works.fault(1, 0));
    due("a REASON takes none of the 20", full.draw("lane 12 4;mirror 0(put cog 1 0;);"), -1);
    for (int i = 0; i < 20; i++) {
      due("takeBack " + i, full.it.takeBack(), true);
    }
    due("as at first", full.it.count(8), 0);
    due("no more", full.it.takeBack(), false);
  }
}
