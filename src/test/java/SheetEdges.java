import java.math.BigInteger;
import java.util.ArrayList;
import java.util.List;

/** Promises 32 to 39, word by word: sheets, counts, the digest. */
final class SheetEdges extends Edges {
  private static final int MOST = Integer.MAX_VALUE;

  SheetEdges(Doc doc, Checks checks) {
    super(doc, checks);
  }

  @Override
  void tell() {
    sheet();
    lose();
    put();
    get();
    copy();
    copyRefused();
    write();
    count();
    digest();
    endQuote();
  }

  private static FounderSleeps withSheets() {
    FounderSleeps x = new FounderSleeps();
    fill(x, 0, 0, 1, 2, 3);
    fill(x, 1, 1, 4, 5, 6, 7);
    fill(x, 2, 2, 8, 9);
    return x;
  }

  private void sheet() {
    in("Promise 32");
    says("A SHEET is a new row of a FORM with n items: n.");
    FounderSleeps x = withSheets();
    row("0, 1, 60 items", new int[] {x.sheet(3, 0, 0), x.sheet(3, 1, 1), x.sheet(3, 2, 60)}, 0, 1, 60);
    row("of the last form, all 0", new int[] {x.get(3, 2, 0), x.get(3, 2, 59), x.get(3, 2, 60), x.get(3, 1, 0)},
        0, 0, LEAST, LEAST);
    for (int form = 0; form <= 2; form++) {
      for (int s = 0; s <= 3; s++) {
        x.sheet(s, 2 - form, 60);
        x.put(s, 2 - form, 1, -7);
        row("new, whatever it was", new int[] {x.sheet(s, form, 2), x.get(s, form, 0), x.get(s, form, 1),
            x.get(s, form, 2)}, 2, 0, 0, LEAST);
      }
    }
    x = withSheets();
    x.sheet(1, 1, 60);
    row("its neighbours stay", items(x, 0, 0, 3), 1, 2, 3);
    row("its neighbours stay", items(x, 2, 2, 2), 8, 9);

    says("BAD: SHEET, FORM, above 60; SIZE.");
    row("no sheet", new int[] {x.sheet(-1, 0, 1), x.sheet(4, 0, 1), x.sheet(LEAST, 0, -1), x.sheet(MOST, 0, 61)},
        BAD, BAD, BAD, BAD);
    row("no form", new int[] {x.sheet(0, -1, 1), x.sheet(0, 3, 1), x.sheet(0, LEAST, -1), x.sheet(0, MOST, 61)},
        BAD, BAD, BAD, BAD);
    row("above 60", new int[] {x.sheet(0, 0, 61), x.sheet(0, 0, MOST)}, BAD, BAD);
    due("no finding", x.count(8), 0);
    row("below 0", new int[] {x.sheet(0, 0, -1), x.sheet(3, 2, LEAST)}, SIZE, SIZE);
    due("finding", x.count(8), 5);
    row("it stays", items(x, 0, 0, 3), 1, 2, 3);
    due("that one stays lost", x.lose(3), NULL);
  }

  private void lose() {
    in("Promise 33");
    says("It is LOST: how many items it had.");
    FounderSleeps x = withSheets();
    x.sheet(3, 0, 60);
    row("3, 4, 2, 60", new int[] {x.lose(0), x.lose(1), x.lose(2), x.lose(3)}, 3, 4, 2, 60);
    row("they are lost", new int[] {x.put(0, 0, 0, 1), x.write(1), x.read(2), x.copy(3, 0, 3, 0, 0)}, NULL, NULL, NULL, NULL);
    x.sheet(0, 0, 0);
    due("an empty one is not lost", x.lose(0), 0);
    says("BAD; NULL.");
    row("no sheet", new int[] {x.lose(-1), x.lose(4), x.lose(LEAST), x.lose(MOST)}, BAD, BAD, BAD, BAD);
    row("lost", new int[] {x.lose(0), x.lose(3), x.count(8)}, NULL, NULL, 1);
  }

  private void put() {
    in("Promise 34");
    says("Item i, treated as of a FORM, becomes v (the lowest bits that it has): 1.");
    FounderSleeps x = withSheets();
    row("the first and the last", new int[] {x.put(0, 0, 0, 127), x.put(0, 0, 2, 128), x.put(1, 1, 0, 32767),
        x.put(1, 1, 3, 32768), x.put(2, 2, 0, MOST), x.put(2, 2, 1, LEAST)}, 1, 1, 1, 1, 1, 1);
    row("bytes", items(x, 0, 0, 3), 127, 2, -128);
    row("shorts", items(x, 1, 1, 4), 32767, 5, 6, -32768);
    row("ints", items(x, 2, 2, 2), MOST, LEAST);
    x.put(0, 0, 0, MOST);
    x.put(0, 0, 1, LEAST);
    x.put(0, 0, 2, 0x1234567f);
    row("bytes", items(x, 0, 0, 3), -1, 0, 127);
    x.put(1, 1, 0, MOST);
    x.put(1, 1, 1, LEAST);
    x.put(1, 1, 2, 0x1234fffe);
    x.put(1, 1, 3, -32769);
    row("shorts", items(x, 1, 1, 4), -1, 0, -2, 32767);

    says("BAD; NULL; CAST; INDEX.");
    row("no sheet", new int[] {x.put(-1, 0, 0, 1), x.put(4, 0, 0, 1), x.put(LEAST, 0, 0, 1), x.put(MOST, 0, 0, 1)},
        BAD, BAD, BAD, BAD);
    row("no form", new int[] {x.put(0, -1, 9, 1), x.put(0, 3, 9, 1), x.put(3, LEAST, 9, 1), x.put(3, MOST, 9, 1)},
        BAD, BAD, BAD, BAD);
    due("no finding", x.count(8), 0);
    row("lost, ahead of form and item", new int[] {x.put(3, 0, -1, 1), x.put(3, 2, 0, 1), x.count(8)}, NULL, NULL, 1);
    row("another form, ahead of item", new int[] {x.put(0, 1, 0, 1), x.put(0, 2, -1, 1), x.put(1, 0, 4, 1), x.put(2, 1, 0, 1),
        x.count(8)}, CAST, CAST, CAST, CAST, 3);
    row("no item", new int[] {x.put(0, 0, -1, 1), x.put(0, 0, 3, 1), x.put(1, 1, LEAST, 1), x.put(2, 2, MOST, 1), x.count(8)},
        INDEX, INDEX, INDEX, INDEX, 2);
    row("bytes stay", items(x, 0, 0, 3), -1, 0, 127);
    x.sheet(3, 0, 0);
    due("an empty one has no item", x.put(3, 0, 0, 1), INDEX);
  }

  private void get() {
    in("Promise 35");
    says("Item i of it.");
    FounderSleeps x = withSheets();
    row("bytes", items(x, 0, 0, 3), 1, 2, 3);
    row("shorts", items(x, 1, 1, 4), 4, 5, 6, 7);
    row("ints", items(x, 2, 2, 2), 8, 9);
    due("no finding", x.count(8), 0);

    says("BAD: the least int; so are NULL, CAST, INDEX (count() 8 tells).");
    row("no sheet, no form", new int[] {x.get(-1, 0, 0), x.get(4, 0, 0), x.get(LEAST, 0, 0), x.get(MOST, 0, 0),
        x.get(0, -1, 0), x.get(0, 3, 0), x.get(3, 3, 0), x.get(3, MOST, 9)}, LEAST, LEAST, LEAST, LEAST, LEAST, LEAST, LEAST,
        LEAST);
    due("no finding", x.count(8), 0);
    row("lost, ahead of all", new int[] {x.get(3, 0, -1), x.count(8)}, LEAST, 1);
    row("another form, ahead of item", new int[] {x.get(0, 1, 9), x.count(8)}, LEAST, 3);
    row("no item", new int[] {x.get(0, 0, 3), x.count(8)}, LEAST, 2);
    row("lost again", new int[] {x.get(3, 2, 0), x.count(8)}, LEAST, 1);
    row("no item", new int[] {x.get(2, 2, -1), x.count(8)}, LEAST, 2);
    row("no item", new int[] {x.get(2, 2, LEAST), x.get(2, 2, MOST), x.count(8)}, LEAST, LEAST, 2);
    row("no such sheet leaves the finding", new int[] {x.get(9, 0, 0), x.count(8)}, LEAST, 2);
    x.put(2, 2, 0, LEAST);
    x.lose(3);
    row("the least int itself is no finding", new int[] {x.get(2, 2, 0), x.count(8)}, LEAST, 1);
  }

  private void copy() {
    in("Promise 36");
    says("n items of SHEET s, from i on, come to SHEET t (perhaps s, as they were), from j on: 1.");
    for (int form = 0; form <= 2; form++) {
      FounderSleeps x = new FounderSleeps();
      fill(x, 0, form, 1, 2, 3, 4, 5);
      fill(x, 3, form, 7, 8, 9);
      due("all of it", x.copy(3, 0, 0, 2, 3), 1);
      row("there", items(x, 0, form, 5), 1, 2, 7, 8, 9);
      row("they stay", items(x, 3, form, 3), 7, 8, 9);
      due("up, by one", x.copy(0, 0, 0, 1, 4), 1);
      row("as they were", items(x, 0, form, 5), 1, 1, 2, 7, 8);
      due("down, by two", x.copy(0, 2, 0, 0, 3), 1);
      row("as they were", items(x, 0, form, 5), 2, 7, 8, 7, 8);
      due("to itself", x.copy(0, 0, 0, 0, 5), 1);
      row("as they were", items(x, 0, form, 5), 2, 7, 8, 7, 8);
      due("the last one", x.copy(0, 4, 3, 2, 1), 1);
      row("there", items(x, 3, form, 3), 7, 8, 8);
      due("none, at both ends", x.copy(0, 5, 3, 3, 0), 1);
      x.sheet(1, form, 0);
      due("none, of an empty one", x.copy(1, 0, 1, 0, 0), 1);
      x.sheet(1, form, 60);
      x.sheet(2, form, 60);
      x.put(1, form, 59, 5);
      due("sixty", x.copy(1, 0, 2, 0, 60), 1);
      due("the last of sixty", x.get(2, form, 59), 5);
      due("no finding", x.count(8), 0);
    }
  }

  private void copyRefused() {
    says("BAD: the SHEETS; NULL: s, t; STORE; INDEX: below 0, not so many.");
    FounderSleeps x = withSheets();
    fill(x, 2, 0, 7, 8);
    row("no s", new int[] {x.copy(-1, 0, 0, 0, 0), x.copy(4, 0, 0, 0, 0), x.copy(LEAST, 0, 3, 0, 0), x.copy(MOST, 0, 0, 0, 0)},
        BAD, BAD, BAD, BAD);
    row("no t", new int[] {x.copy(0, 0, -1, 0, 0), x.copy(0, 0, 4, 0, 0), x.copy(3, 0, LEAST, 0, 0), x.copy(3, 0, MOST, 0, 0)},
        BAD, BAD, BAD, BAD);
    due("no finding", x.count(8), 0);
    row("lost", new int[] {x.copy(3, 0, 0, 0, 0), x.copy(0, 0, 3, 0, 0), x.copy(3, -1, 3, 9, 9), x.count(8)},
        NULL, NULL, NULL, 1);
    row("unlike, even none", new int[] {x.copy(0, 0, 1, 0, 0), x.copy(1, -1, 0, 9, 9), x.count(8)}, STORE, STORE, 4);
    row("below 0", new int[] {x.copy(0, -1, 2, 0, 1), x.copy(0, 0, 2, -1, 1), x.copy(0, 0, 2, 0, -1), x.count(8)},
        INDEX, INDEX, INDEX, 2);
    row("not so many", new int[] {x.copy(0, 0, 2, 0, 3), x.copy(2, 0, 0, 0, 3), x.copy(0, 2, 2, 0, 2), x.copy(0, 0, 2, 1, 2),
        x.copy(0, 4, 2, 0, 0), x.copy(0, 0, 2, 3, 0)}, INDEX, INDEX, INDEX, INDEX, INDEX, INDEX);
    row("at the ends of int", new int[] {x.copy(0, MOST, 2, 0, 1), x.copy(0, 0, 2, MOST, 1), x.copy(0, 1, 2, 1, MOST),
        x.copy(0, LEAST, 2, 0, 1), x.copy(0, 0, 2, LEAST, 1), x.copy(0, 0, 2, 0, LEAST), x.copy(0, LEAST, 2, LEAST, LEAST),
        x.copy(0, MOST, 2, MOST, MOST)}, INDEX, INDEX, INDEX, INDEX, INDEX, INDEX, INDEX, INDEX);
    row("bytes stay", items(x, 0, 0, 3), 1, 2, 3);
    row("bytes stay", items(x, 2, 0, 2), 7, 8);
  }

  private void write() {
    in("Promise 37");
    says("NOISE (NONE) in HOURS 0 on comes to a SHEET from item 0 on, as many as there are items, 10 at most: how many.");
    FounderSleeps x = withThunders(town("b", "00n0;00n0;00w5", 30, 20), 7, 9, 7, 9, 7, 9, 7, 9, 9, 1);
    int[] want = {28, 0, 0, 0, 0, 3, 0, 36, NONE, NONE};
    for (int form = 0; form <= 2; form++) {
      for (int n = 0; n <= 12; n++) {
        fill(x, form, form, 70, 71, 72, 73, 74, 75, 76, 77, 78, 79, 80, 81);
        x.sheet(3, form, n);
        x.copy(form, 0, 3, 0, n);
        due("to " + n + " items", x.write(3), Math.min(10, n));
        for (int i = 0; i < n; i++) {
          due("item " + i + " of " + n, x.get(3, form, i), i < 10 ? want[i] : 70 + i);
        }
      }
    }
    x = withThunders(town("b", EIGHT.replaceAll("[0-9]{2}[wckn][0-9]", "00n0"), 30, 4), 0, 9, 0, 9, 0, 9, 0, 9, 0, 9, 0, 9);
    fill(x, 0, 0, 1, 2, 3);
    due("to three bytes", x.write(0), 3);
    row("the lowest bits of 166", items(x, 0, 0, 3), -90, NONE, NONE);
    x.sheet(0, 1, 60);
    due("to sixty", x.write(0), 10);
    row("all of 166", new int[] {x.get(0, 1, 0), x.get(0, 1, 1), x.get(0, 1, 9), x.get(0, 1, 10)}, 166, NONE, NONE, 0);

    says("BAD; NULL.");
    row("no sheet", new int[] {x.write(-1), x.write(4), x.write(LEAST), x.write(MOST), x.count(8)}, BAD, BAD, BAD, BAD, 0);
    row("lost", new int[] {x.write(1), x.count(8)}, NULL, 1);
  }

  private void count() {
    in("Promise 38");
    says("0 CELLS, 1 DEEDS, 2, 3 bytes of texts, 4 THUNDERS, 5 DEEDS that are done, 6 CELLS that are EXILED in all, 7 LISTENED,");
    FounderSleeps x = town(grid(5, 6, '.') + ";.....b", "35c0;35w0;35w1;34n2;35n3;34w4;00w5;39n9", 30, 4);
    withThunders(x, 9, 9, 9, 9, 9, 1, 9, 1, 9, 1, 9, 1);
    for (int i = 0; i < 8; i++) {
      x.listened(i, 0);
    }
    row("all that may be", counts(x), 36, 8, 41, 39, 6, 5, 2, 8, 0);
    x.type(0, '.');
    x.type(1, '.');
    x.thunder(1, 1);
    x.listened(1, 1);
    row("no more may be", counts(x), 36, 8, 41, 39, 6, 5, 2, 8, 0);
    row("none", counts(new FounderSleeps()), 0, 0, 0, 0, 0, 0, 0, 0, 0);
    x.set(0, 5);
    row("he wakes in hour 0", new int[] {x.count(5), x.count(6)}, 2, 0);

    says("8 the number of the latest FINDING (0 before any).");
    x = withSheets();
    due("before any", x.count(8), 0);
    row("each", new int[] {x.lose(3), x.count(8), x.put(0, 0, 9, 0), x.count(8), x.put(0, 1, 0, 0), x.count(8),
        x.copy(0, 0, 1, 0, 0), x.count(8), x.sheet(0, 0, -1), x.count(8), x.lose(3), x.count(8)},
        NULL, 1, INDEX, 2, CAST, 3, STORE, 4, SIZE, 5, NULL, 1);
    row("other refusals are none", new int[] {x.lose(9), x.undo(0), x.back(), x.count(8)}, BAD, NOT, NOT, 1);
    row("what is done is none", new int[] {x.lose(0), x.count(8)}, 3, 1);

    says("BAD.");
    row("no such number", new int[] {x.count(-1), x.count(9), x.count(LEAST), x.count(MOST)}, BAD, BAD, BAD, BAD);
  }

  private void digest() {
    in("Promise 39");
    says("h is 17; h becomes 31 h and each of: count() 0 to 7; of texts fault(); of CELLS cell(), carry(20, 0, it), way(0, it);"
        + " bed(); of DEEDS deed() 0 to 2, heard() 0, 1, hour() 0, 1, whence(it, NONE), whence(it, 0), what(), ask(); of HOURS 0"
        + " to 9 noise(), depth(); wakes(), exiled() 0, 1, loudest(), felt(NONE), felt(0), lay() 0, 1, never(), sleeps(5),"
        + " above, below, day(7, 8, 0 and 1); as longs that wrap.");
    String wide = "......;..h...;h.fb.h;...h..;.f...f;h.....";
    String busy = "00n0;07k1;15w1;20c2;14n4;07c3;35k6;22k8";
    FounderSleeps x = new FounderSleeps();
    due("of a new one", x.digest(), digestOf(x));
    x.lose(0);
    due("not count() 8", x.digest(), new FounderSleeps().digest());
    x.sheet(0, 0, 60);
    due("not the sheets", x.digest(), new FounderSleeps().digest());
    for (int depth : new int[] {0, 12, 21, 30}) {
      x = town(wide, busy, depth, 5);
      due("of all that may be, in depth " + depth, x.digest(), digestOf(x));
      withThunders(x, 4, 9, 0, 1, 9, 9, 9, 9, 9, 9, 9, 9);
      due("and with thunder", x.digest(), digestOf(x));
      x.listened(0, x.noise(0));
      due("and with what was listened", x.digest(), digestOf(x));
    }
    for (int depth = 5; depth <= 10; depth++) {
      x = town("....b", "00n0", depth, 4);
      due("where felt helps, in depth " + depth, x.digest(), digestOf(x));
    }
    String[] towns = {"b", "b;", "bh", "..", ".b.;...", "x"};
    String[] deeds = {"", "00n0", "00n0;", "39w9;00c5"};
    for (String t : towns) {
      for (String d : deeds) {
        x = town(t, d, 6, 5);
        due("of " + t + " and " + d, x.digest(), digestOf(x));
      }
    }
    due("of one cell", town("b", "").digest(), wrapped(List.of(1L, 0L, 1L, 0L, 0L, 0L, 0L, 0L, -1L, -1L, 3L, 20L, -1L, 0L,
        0L, 12L, 0L, 15L, 0L, 18L, 0L, 21L, 0L, 24L, 0L, 27L, 0L, 30L, 0L, 30L, 0L, 30L, 0L, 30L,
        -1L, 0L, 0L, -1L, 0L, -1L, -1L, -1L, 0L, 1L, 1L, (long) town("b", "").day(7, 8, 0), (long) town("b", "").day(7, 8, 1))));
  }

  private static long digestOf(FounderSleeps x) {
    List<Long> all = new ArrayList<>();
    for (int i = 0; i <= 7; i++) {
      all.add((long) x.count(i));
    }
    add(all, x.fault(0), x.fault(1));
    for (int i = 0; i < x.count(0); i++) {
      add(all, x.cell(i), x.carry(20, 0, i), x.way(0, i));
    }
    add(all, x.bed());
    for (int i = 0; i < x.count(1); i++) {
      add(all, x.deed(i, 0), x.deed(i, 1), x.deed(i, 2), x.heard(i, 0), x.heard(i, 1), x.hour(i, 0), x.hour(i, 1),
          x.whence(i, NONE), x.whence(i, 0), x.what(i), x.ask(i));
    }
    for (int i = 0; i < 10; i++) {
      add(all, x.noise(i), x.depth(i));
    }
    add(all, x.wakes(), x.exiled(0), x.exiled(1), x.loudest(), x.felt(NONE), x.felt(0), x.lay(0), x.lay(1), x.never(),
        x.sleeps(5, 0), x.sleeps(5, 1), x.day(7, 8, 0), x.day(7, 8, 1));
    return wrapped(all);
  }

  private static void add(List<Long> all, long... more) {
    for (long v : more) {
      all.add(v);
    }
  }

  /** By numbers that never wrap, of which the lowest 64 bits are taken at the end. */
  private static long wrapped(List<Long> all) {
    BigInteger h = BigInteger.valueOf(17);
    for (long v : all) {
      h = h.multiply(BigInteger.valueOf(31)).add(BigInteger.valueOf(v));
    }
    return h.longValue();
  }
}
