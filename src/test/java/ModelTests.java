import java.util.Random;

/** Runs of as many calls as an object is good for, by chance (always the same ones), each answer beside that of the Model. */
public final class ModelTests {
  private static final int[] EDGES = {Integer.MIN_VALUE, -100, -2, -1, 0, 1, 2, 3, 4, 5, 8, 9, 10, 17, 18, 20, 21, 30, 31,
      35, 36, 39, 40, 41, 59, 60, 61, 99, 100, 255, 256, 70000, Integer.MAX_VALUE};
  private static final int CALLS = 512;
  /** A text takes some fifty calls, so none is begun later. */
  private static final int LAST_TEXT = 450;
  private final Random random;
  private final Checks checks;
  private final FounderSleeps x = new FounderSleeps();
  private final Model m = new Model();
  private final int run;
  private int calls;

  private ModelTests(int run, Checks checks) {
    this.run = run;
    this.random = new Random(run);
    this.checks = checks;
  }

  public static void main(String[] args) {
    int runs = args.length > 0 ? Integer.parseInt(args[0]) : 120;
    Checks checks = new Checks("model");
    for (int run = 0; run < runs && !checks.failed(); run++) {
      new ModelTests(run, checks).go();
    }
    checks.end();
  }

  private void go() {
    while (calls < CALLS - 1 && !checks.failed()) {
      int act = calls < LAST_TEXT ? random.nextInt(30) : 2 + random.nextInt(28);
      if (act == 0) {
        tell(0, townText());
      } else if (act == 1) {
        tell(1, deedText());
      } else if (act == 2) {
        call(37);
      } else if (act < 6) {
        hearSomething();
      } else {
        call(random.nextInt(37));
      }
    }
    if (!checks.failed()) {
      call(37);
      checks.due("calls of run " + run, calls, CALLS);
    }
  }

  private void tell(int text, String bytes) {
    same("wipe", x.wipe(text), m.wipe(text));
    for (char b : bytes.toCharArray()) {
      same("type " + b, x.type(text, b), m.type(text, b));
    }
    same("fault", x.fault(text), m.fault(text));
  }

  private String townText() {
    int rows = 1 + random.nextInt(random.nextInt(4) == 0 ? 7 : 6);
    int wide = 1 + random.nextInt(6);
    int open = 1 + random.nextInt(8);
    StringBuilder s = new StringBuilder();
    for (int i = 0; i < rows * wide; i++) {
      s.append(i > 0 && i % wide == 0 ? ";" : "").append(random.nextInt(8) < open ? '.' : "hf.".charAt(random.nextInt(3)));
    }
    int at = random.nextInt(s.length());
    if (s.charAt(at) != ';' && random.nextInt(10) > 0) {
      s.setCharAt(at, 'b');
    }
    return spoiled(s, ".hfb;x");
  }

  private String deedText() {
    int most = random.nextBoolean() ? 35 : 39;
    int cells = Math.max(1, Math.min(most + 1, m.count(0) + random.nextInt(3)));
    StringBuilder s = new StringBuilder();
    int many = random.nextInt(3) == 0 ? 8 : random.nextInt(9);
    for (int i = 0; i < many; i++) {
      int cell = random.nextInt(cells);
      s.append(i > 0 ? ";" : "").append(cell / 10).append(cell % 10);
      s.append("wckn".charAt(random.nextInt(4))).append(random.nextInt(random.nextBoolean() ? 4 : 10));
    }
    return spoiled(s, "0123456789wckn;x");
  }

  private String spoiled(StringBuilder s, String signs) {
    if (s.length() > 0 && random.nextInt(8) == 0) {
      int at = random.nextInt(s.length());
      char sign = signs.charAt(random.nextInt(signs.length()));
      switch (random.nextInt(3)) {
        case 0 -> s.setCharAt(at, sign);
        case 1 -> s.insert(at, sign);
        default -> s.deleteCharAt(at);
      }
    }
    return s.toString();
  }

  /** What is heard is most often so, so that something can be told by it. */
  private void hearSomething() {
    if (random.nextInt(4) == 0) {
      same("forget", x.forget(), m.forget());
    } else {
      int hour = random.nextInt(10);
      int much = random.nextInt(4) == 0 ? random.nextInt(20) : m.noise(hour);
      same("listened " + hour + " " + much, x.listened(hour, much), m.listened(hour, much));
    }
  }

  private int upTo(int most) {
    return random.nextInt(25) == 0 ? EDGES[random.nextInt(EDGES.length)] : random.nextInt(most + 1);
  }

  private int index(int most) {
    return upTo(most + 1) - 1;
  }

  private int someCell() {
    return upTo(Math.max(0, m.count(0) - 1));
  }

  private int someDeed() {
    return upTo(Math.max(0, m.count(1) - 1));
  }

  private void same(String what, long got, long want) {
    calls++;
    checks.due("run " + run + ", call " + calls + ", " + what, got, want);
  }

  private void call(int act) {
    if (act < 19) {
      callOfNight(act);
    } else {
      callOfPlans(act);
    }
  }

  private void callOfNight(int act) {
    int a, b, c;
    switch (act) {
      case 0 -> same("type " + (a = upTo(1)) + " " + (b = upTo(255)), x.type(a, b), m.type(a, b));
      case 1 -> same("undo " + (a = upTo(1)), x.undo(a), m.undo(a));
      case 2 -> same("fault " + (a = upTo(1)), x.fault(a), m.fault(a));
      case 3 -> same("cell " + (a = upTo(35)), x.cell(a), m.cell(a));
      case 4 -> same("bed", x.bed(), m.bed());
      case 5 -> same("deed " + (a = someDeed()) + " " + (b = upTo(2)), x.deed(a, b), m.deed(a, b));
      case 6 -> same("set 0 " + (b = upTo(30)), x.set(0, b), m.set(0, b));
      case 7 -> same("set 1 " + (b = upTo(20)), x.set(1, b), m.set(1, b));
      case 8 -> same("thunder " + (a = upTo(9)) + " " + (b = upTo(9)), x.thunder(a, b), m.thunder(a, b));
      case 9 -> same("back", x.back(), m.back());
      case 10 -> same("read " + (a = upTo(3)), x.read(a), m.read(a));
      case 11 -> same("carry " + (a = upTo(99)) + " " + (b = someCell()) + " " + (c = someCell()),
          x.carry(a, b, c), m.carry(a, b, c));
      case 12 -> same("heard " + (a = someDeed()) + " " + (b = upTo(1)), x.heard(a, b), m.heard(a, b));
      case 13 -> same("noise " + (a = upTo(9)), x.noise(a), m.noise(a));
      case 14 -> same("depth " + (a = upTo(9)), x.depth(a), m.depth(a));
      case 15 -> same("wakes", x.wakes(), m.wakes());
      case 16 -> same("exiled " + (a = upTo(1)), x.exiled(a), m.exiled(a));
      case 17 -> same("loudest", x.loudest(), m.loudest());
      default -> same("count " + (a = upTo(8)), x.count(a), m.count(a));
    }
  }

  private void callOfPlans(int act) {
    int a, b, c, d, e;
    switch (act) {
      case 19 -> same("hour " + (a = someDeed()) + " " + (b = upTo(1)), x.hour(a, b), m.hour(a, b));
      case 20 -> same("felt " + (a = index(1)), x.felt(a), m.felt(a));
      case 21 -> same("lay " + (a = upTo(1)), x.lay(a), m.lay(a));
      case 22 -> same("way " + (a = someCell()) + " " + (b = someCell()), x.way(a, b), m.way(a, b));
      case 23 -> same("listened " + (a = upTo(9)) + " " + (b = upTo(99)), x.listened(a, b), m.listened(a, b));
      case 24 -> same("never", x.never(), m.never());
      case 25 -> same("whence " + (a = someDeed()) + " " + (b = index(35)), x.whence(a, b), m.whence(a, b));
      case 26 -> same("what " + (a = someDeed()), x.what(a), m.what(a));
      case 27 -> same("ask " + (a = someDeed()), x.ask(a), m.ask(a));
      case 28 -> same("sleeps " + (a = upTo(16)) + " " + (b = upTo(1)), x.sleeps(a, b), m.sleeps(a, b));
      case 29 -> same("day " + (a = random.nextInt()) + " " + (b = upTo(8)) + " " + (c = upTo(1)),
          x.day(a, b, c), m.day(a, b, c));
      case 30 -> same("sheet " + (a = upTo(3)) + " " + (b = upTo(2)) + " " + (c = upTo(20) - 1),
          x.sheet(a, b, c), m.sheet(a, b, c));
      case 31 -> lose();
      case 32, 33 -> same("put " + (a = upTo(3)) + " " + (b = upTo(2)) + " " + (c = upTo(15)) + " " + (d = upTo(9)),
          x.put(a, b, c, d), m.put(a, b, c, d));
      case 34 -> same("get " + (a = upTo(3)) + " " + (b = upTo(2)) + " " + (c = upTo(20)), x.get(a, b, c), m.get(a, b, c));
      case 35 -> same("copy " + (a = upTo(3)) + " " + (b = upTo(9)) + " " + (c = upTo(3)) + " " + (d = upTo(9)) + " "
          + (e = upTo(6)), x.copy(a, b, c, d, e), m.copy(a, b, c, d, e));
      case 36 -> same("write " + (a = upTo(3)), x.write(a), m.write(a));
      default -> same("digest", x.digest(), m.digest());
    }
  }

  private void lose() {
    int s = upTo(3);
    if (random.nextInt(4) == 0) {
      same("lose " + s, x.lose(s), m.lose(s));
    }
  }
}
