/** Makes objects in a state that is told in one line, and reads rows of answers. */
abstract class Towns {
  static final int NONE = -1, BAD = -2, NOT = -3, FULL = -4;
  static final int NULL = -11, INDEX = -12, CAST = -13, STORE = -14, SIZE = -15;
  static final int LEAST = Integer.MIN_VALUE;
  static final String EIGHT = "00w0;10c1;20k2;30n3;05w4;15c5;25k6;35n7";

  static FounderSleeps town(String town, String deeds) {
    return Checks.town(town, deeds);
  }

  static FounderSleeps town(String town, String deeds, int depth, int charter) {
    FounderSleeps x = Checks.town(town, deeds);
    x.set(0, depth);
    x.set(1, charter);
    return x;
  }

  /** Hours and loudnesses by turns. */
  static FounderSleeps withThunders(FounderSleeps x, int... pairs) {
    for (int i = 0; i + 1 < pairs.length; i += 2) {
      x.thunder(pairs[i], pairs[i + 1]);
    }
    return x;
  }

  static String grid(int rows, int wide, char sign) {
    StringBuilder s = new StringBuilder();
    for (int i = 0; i < rows; i++) {
      s.append(i > 0 ? ";" : "").append(String.valueOf(sign).repeat(wide));
    }
    return s.toString();
  }

  static int[] noises(FounderSleeps x) {
    int[] all = new int[10];
    for (int i = 0; i < 10; i++) {
      all[i] = x.noise(i);
    }
    return all;
  }

  static int[] depths(FounderSleeps x) {
    int[] all = new int[10];
    for (int i = 0; i < 10; i++) {
      all[i] = x.depth(i);
    }
    return all;
  }

  static int[] fates(FounderSleeps x) {
    int[] all = new int[x.count(1)];
    for (int i = 0; i < all.length; i++) {
      all[i] = x.heard(i, 1);
    }
    return all;
  }

  static int[] heard(FounderSleeps x) {
    int[] all = new int[x.count(1)];
    for (int i = 0; i < all.length; i++) {
      all[i] = x.heard(i, 0);
    }
    return all;
  }

  static int[] counts(FounderSleeps x) {
    int[] all = new int[9];
    for (int i = 0; i < 9; i++) {
      all[i] = x.count(i);
    }
    return all;
  }

  static int[] items(FounderSleeps x, int s, int form, int n) {
    int[] all = new int[n];
    for (int i = 0; i < n; i++) {
      all[i] = x.get(s, form, i);
    }
    return all;
  }

  static void fill(FounderSleeps x, int s, int form, int... items) {
    x.sheet(s, form, items.length);
    for (int i = 0; i < items.length; i++) {
      x.put(s, form, i, items[i]);
    }
  }
}
