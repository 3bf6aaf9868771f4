public final class SmokeTest {
  public static void main(String[] args) {
    Works.due("count(0)", new MarbleWorks().count(0), 0);
    Works.end("SmokeTest");
  }
}
