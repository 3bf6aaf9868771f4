import java.io.IOException;
import java.nio.file.Files;
import java.nio.file.Path;
import java.util.NoSuchElementException;
import java.util.Set;
import java.util.TreeSet;

/** What the tests share: a MarbleWorks that is fed with texts, and the count of wrong answers. */
final class Works {
  static final int THROWN = -9;
  static final int FAR = Integer.MAX_VALUE;
  static final int LOW = Integer.MIN_VALUE;

  final MarbleWorks it = new MarbleWorks();
  private static final Set<String> QUOTES = new TreeSet<>();
  private static String sentence = "";
  private static int asked = 0;
  private static int wrong = 0;

  /** The sentence of the document that the answers from here on are about. */
  static void says(String quote) {
    sentence = quote;
    QUOTES.add(quote);
  }

  static void due(String what, long got, long want) {
    asked++;
    if (got != want) {
      wrong++;
      System.out.println(what + " answered " + got + ", due is " + want);
      if (!sentence.isEmpty()) {
        System.out.println("  the document: " + sentence);
      }
    }
  }

  static void due(String what, boolean got, boolean want) {
    due(what, got ? 1 : 0, want ? 1 : 0);
  }

  static void end(String name) {
    sentence = "";
    checkQuotes();
    System.out.println(name + ": " + asked + " answers, " + wrong + " wrong");
    if (wrong != 0) {
      System.exit(1);
    }
  }

  /** A sentence that was changed or is gone must be read again, and its test with it. */
  private static void checkQuotes() {
    if (QUOTES.isEmpty()) {
      return;
    }
    String document = "";
    try {
      document = Files.readString(Path.of("../shared/DOC.md")).replaceAll("\\s+", " ");
    } catch (IOException e) {
      System.out.println("../shared/DOC.md can't be read");
    }
    for (String quote : QUOTES) {
      due("the document has \"" + quote + "\"", document.contains(quote), true);
    }
  }

  /** The three numbers of one feed, from up to 24 signs. */
  static long[] packed(String text) {
    long[] three = new long[3];
    for (int i = 0; i < 24; i++) {
      three[i / 8] = three[i / 8] << 8 | (i < text.length() ? text.charAt(i) : 0);
    }
    return three;
  }

  int feed(String text) {
    int signs = it.count(5);
    for (int at = 0; at < text.length(); at += 24) {
      long[] three = packed(text.substring(at, Math.min(at + 24, text.length())));
      signs = it.feed(three[0], three[1], three[2]);
    }
    return signs;
  }

  int draw(String text) {
    feed(text);
    return it.draw();
  }

  /** For boards that a test needs, not those that it asks about. */
  Works with(String text) {
    due("draw of " + text, draw(text), 0);
    return this;
  }

  /** RUNS of one DROP each; how the last one ended. */
  int run(int hopper, int times) {
    int end = 0;
    for (int i = 0; i < times; i++) {
      end = it.run(hopper, 1);
    }
    return end;
  }

  int hopper(int hopper, int what) {
    try {
      return it.hopper(hopper, what);
    } catch (NoSuchElementException e) {
      return THROWN;
    }
  }

  int tries(int hopper) {
    try {
      return it.tries(hopper);
    } catch (NoSuchElementException e) {
      return THROWN;
    }
  }

  /** COUNTERS in a chain, each counting when the one ahead is full; HOPPER 0 drops into the first, and LEVERS let it go on. */
  static String chain(int... sizes) {
    StringBuilder b = new StringBuilder("hopper 0 1 0 999;");
    for (int i = 0; i < sizes.length; i++) {
      b.append("put counter ").append(sizes[i]).append(' ').append(1 + i).append(' ').append(i).append(';');
    }
    for (int lane = 0; lane < sizes.length + 2; lane++) {
      b.append("lane ").append(lane).append(" 0;");
    }
    return b.toString();
  }

  static int fault(int kind, int place) {
    return kind + 16 * place;
  }

  /** A PROGRAM that a new BOARD takes. */
  static void within(String text) {
    due("draw of " + text, new Works().draw(text), 0);
  }

  /** A PROGRAM with a FAULT at the first place of the sign ~, which is left out. */
  static void beyond(int kind, String text) {
    int at = text.indexOf('~');
    String told = text.substring(0, at) + text.substring(at + 1);
    due("draw of " + told, new Works().draw(told), fault(kind, at));
  }
}
