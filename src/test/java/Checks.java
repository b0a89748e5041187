/** Counts answers that are as due, tells those that are not, and makes objects with texts typed. */
final class Checks {
  private final String title;
  private int right;
  private int wrong;

  Checks(String title) {
    this.title = title;
  }

  void due(String what, long got, long want) {
    if (got == want) {
      right++;
    } else {
      wrong++;
      System.out.println(title + ": " + what + " answered " + got + ", due is " + want);
    }
  }

  void holds(String what, boolean so) {
    due(what, so ? 1 : 0, 1);
  }

  boolean failed() {
    return wrong > 0;
  }

  void end() {
    System.out.println(title + ": " + right + " answers as due, " + wrong + " not");
    if (wrong > 0 || right == 0) {
      System.exit(1);
    }
  }

  static FounderSleeps town(String town, String deeds) {
    FounderSleeps x = new FounderSleeps();
    type(x, 0, town);
    type(x, 1, deeds);
    return x;
  }

  static void type(FounderSleeps x, int text, String bytes) {
    for (int i = 0; i < bytes.length(); i++) {
      x.type(text, bytes.charAt(i));
    }
  }
}
