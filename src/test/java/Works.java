/** What the tests share: a MarbleWorks that is fed with texts, and the count of wrong answers. */
final class Works {
  final MarbleWorks it = new MarbleWorks();
  private static int asked = 0;
  private static int wrong = 0;

  static void due(String what, long got, long want) {
    asked++;
    if (got != want) {
      wrong++;
      System.out.println(what + " answered " + got + ", due is " + want);
    }
  }

  static void due(String what, boolean got, boolean want) {
    due(what, got ? 1 : 0, want ? 1 : 0);
  }

  static void end(String name) {
    System.out.println(name + ": " + asked + " answers, " + wrong + " wrong");
    if (wrong != 0) {
      System.exit(1);
    }
  }

  /** The three numbers of one feed, from up to 24 signs. */
  static long[] packed(String text) {
    long[] three = new long[3];
    for (int i = 0; i < 24; i++) {
      three[i / 8] = three[i / 8] << 8 | (i < text.length() ? text.charAt(i) : 0);
    }
    return three;
  }

  int feed(String text) {
    int signs = it.count(5);
    for (int at = 0; at < text.length(); at += 24) {
      long[] three = packed(text.substring(at, Math.min(at + 24, text.length())));
      signs = it.feed(three[0], three[1], three[2]);
    }
    return signs;
  }

  int draw(String text) {
    feed(text);
    return it.draw();
  }

  /** For boards that a test needs, not those that it asks about. */
  Works with(String text) {
    due("draw of " + text, draw(text), 0);
    return this;
  }

  static int fault(int kind, int place) {
    return kind + 16 * place;
  }
}
