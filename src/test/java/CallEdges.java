/** Promises 1 to 31, word by word: what each call answers at its edges. */
final class CallEdges extends Edges {
  private static final int MOST = Integer.MAX_VALUE;

  CallEdges(Doc doc, Checks checks) {
    super(doc, checks);
  }

  @Override
  void tell() {
    newObject();
    type();
    wipeAndUndo();
    faultCellBed();
    deedAndSet();
    thunderAndBack();
    read();
    carryAndHeard();
    noiseAndDepth();
    wakesExiledLoudest();
    hourAndFelt();
    layAndWay();
    listenedAndForget();
    neverAndWhence();
    whatAndAsk();
    sleepsAndDay();
    endQuote();
  }

  private void bads(String what, int... answers) {
    for (int i = 0; i < answers.length; i++) {
      due(what + " that may not be, " + i, answers[i], BAD);
    }
  }

  private void newObject() {
    in("Promise 1");
    says("No CELLS, no DEEDS, no THUNDERS; all SHEETS are LOST.");
    FounderSleeps x = new FounderSleeps();
    row("counts", counts(x), 0, 0, 0, 0, 0, 0, 0, 0, 0);
    row("calls", new int[] {x.cell(0), x.bed(), x.deed(0, 0), x.undo(0), x.undo(1), x.back(), x.forget(), x.wakes(),
        x.loudest(), x.felt(NONE), x.lay(0), x.never()}, NONE, NONE, BAD, NOT, NOT, NOT, 0, NONE, NONE, 0, NONE, 0);
    row("noises", noises(x), 0, 0, 0, 0, 0, 0, 0, 0, 0, 0);
    row("depths", depths(x), 12, 15, 18, 21, 24, 27, 30, 30, 30, 30);
    row("sheets", new int[] {x.lose(0), x.lose(1), x.lose(2), x.lose(3)}, NULL, NULL, NULL, NULL);
    FounderSleeps other = town("b", "00w0");
    due("one object does not know of another", x.count(2) + other.count(2), 1);
  }

  private void type() {
    in("Promise 2");
    says("A byte (0 to 255) comes behind a text: how many.");
    FounderSleeps x = new FounderSleeps();
    for (int i = 1; i <= 41; i++) {
      due("byte " + i + " of a town", x.type(0, i % 2 == 0 ? 0 : 255), i);
    }
    for (int i = 1; i <= 39; i++) {
      due("byte " + i + " of deeds", x.type(1, i % 2 == 0 ? 255 : 0), i);
    }
    FounderSleeps y = town(".", "");
    y.type(0, 'b');
    due("behind, not ahead", y.bed(), 1);

    says("BAD; FULL.");
    due("full", x.type(0, '.'), FULL);
    due("full", x.type(1, '.'), FULL);
    bads("where it is full, a byte", x.type(0, -1), x.type(0, 256), x.type(1, LEAST), x.type(1, MOST));
    bads("a text", y.type(-1, '.'), y.type(2, '.'), y.type(LEAST, '.'), y.type(MOST, '.'));
    bads("a byte", y.type(0, -1), y.type(0, 256), y.type(1, -1), y.type(1, 256));
    row("nothing came", new int[] {x.count(2), x.count(3), y.count(2), y.count(3)}, 41, 39, 2, 0);
    x.undo(0);
    due("room again", x.type(0, 255), 41);
  }

  private void wipeAndUndo() {
    in("Promise 3");
    says("A text is empty: how many bytes it had.");
    FounderSleeps x = town(grid(6, 6, '.'), EIGHT);
    row("full ones, and then again", new int[] {x.wipe(0), x.wipe(0), x.wipe(1), x.wipe(1)}, 41, 0, 39, 0);
    row("counts", counts(x), 0, 0, 0, 0, 0, 0, 0, 0, 0);
    x = town("b.x", "00w0");
    row("one at fault, not the other one", new int[] {x.wipe(0), x.count(3), x.fault(0), x.type(0, 'b')}, 3, 4, NONE, 1);
    says("BAD.");
    bads("a text", x.wipe(-1), x.wipe(2), x.wipe(LEAST), x.wipe(MOST));
    row("both stay", new int[] {x.count(2), x.count(3)}, 1, 4);

    in("Promise 4");
    says("The last byte of a text is undone: how many are left.");
    x = town(grid(6, 6, '.'), EIGHT);
    row("of full ones", new int[] {x.undo(0), x.undo(1), x.count(0), x.count(1)}, 40, 38, 0, 0);
    row("typed again", new int[] {x.type(0, 'b'), x.type(1, '9'), x.bed(), x.deed(7, 2)}, 41, 39, 35, 9);
    x = town("b", "0");
    row("of one byte", new int[] {x.undo(0), x.undo(1), x.bed(), x.fault(1)}, 0, 0, NONE, NONE);
    says("BAD; NOT: it is empty.");
    row("empty", new int[] {x.undo(0), x.undo(1)}, NOT, NOT);
    bads("a text", x.undo(-1), x.undo(2), x.undo(LEAST), x.undo(MOST));
    row("still empty", new int[] {x.count(2), x.count(3)}, 0, 0);
  }

  private void faultCellBed() {
    in("Promise 5");
    says("The FAULT of a text; NONE.");
    FounderSleeps x = town(".x", "00x");
    row("at fault", new int[] {x.fault(0), x.fault(1)}, 1, 2);
    x = town(".", "00w0");
    row("well", new int[] {x.fault(0), x.fault(1)}, NONE, NONE);
    says("BAD.");
    bads("a text", x.fault(-1), x.fault(2), x.fault(LEAST), x.fault(MOST));

    in("Promise 6");
    says("What a CELL (0 to 35) is: 0 open, 1 a house, 2 felt, 3 a bed; NONE: there is no such CELL.");
    x = town(".hfb", "");
    row("cells", new int[] {x.cell(0), x.cell(1), x.cell(2), x.cell(3), x.cell(4), x.cell(35)}, 0, 1, 2, 3, NONE, NONE);
    due("the last one", town(grid(6, 6, 'h'), "").cell(35), 1);
    says("BAD.");
    bads("a cell", x.cell(-1), x.cell(36), x.cell(LEAST), x.cell(MOST), new FounderSleeps().cell(36));

    in("Promise 7");
    says("THE BED: the CELL; NONE.");
    row("first, last, none", new int[] {town("b.", "").bed(), town(grid(5, 6, '.') + ";.....b", "").bed(),
        town("..", "").bed()}, 0, 35, NONE);
  }

  private void deedAndSet() {
    in("Promise 8");
    says("The CELL as told (what = 0), what it is (1: 0 w, 1 c, 2 k, 3 n), the HOUR (2) of a DEED.");
    FounderSleeps x = town("b", "39w9;00c0;10k5;09n1");
    int[] all = new int[12];
    for (int i = 0; i < 12; i++) {
      all[i] = x.deed(i / 3, i % 3);
    }
    row("as told, though there is no such cell", all, 39, 0, 9, 0, 1, 0, 10, 2, 5, 9, 3, 1);
    says("BAD.");
    bads("a deed", x.deed(-1, 0), x.deed(4, 0), x.deed(8, 0), x.deed(LEAST, 0), x.deed(MOST, 0));
    bads("a what", x.deed(0, -1), x.deed(0, 3), x.deed(0, LEAST), x.deed(0, MOST));
    x = town("b", EIGHT);
    bads("a deed of eight", x.deed(8, 0), x.deed(9, 2));

    in("Promise 9");
    says("DEPTH (what = 0), CHARTER (1): what it was.");
    x = new FounderSleeps();
    row("from edge to edge", new int[] {x.set(0, 0), x.set(0, 30), x.set(0, 21), x.set(1, 0), x.set(1, 20), x.set(1, 4)},
        12, 0, 30, 4, 0, 20);
    due("it is so at once", x.depth(0), 21);
    says("BAD.");
    bads("a what", x.set(-1, 5), x.set(2, 5), x.set(LEAST, 5), x.set(MOST, 5));
    bads("a depth", x.set(0, -1), x.set(0, 31), x.set(0, LEAST), x.set(0, MOST));
    bads("a charter", x.set(1, -1), x.set(1, 21), x.set(1, 30), x.set(1, LEAST), x.set(1, MOST));
    row("as they were", new int[] {x.set(0, 0), x.set(1, 0)}, 21, 4);
  }

  private void thunderAndBack() {
    in("Promise 10");
    says("A THUNDER more: how many.");
    FounderSleeps x = new FounderSleeps();
    row("six", new int[] {x.thunder(0, 1), x.thunder(0, 9), x.thunder(9, 1), x.thunder(9, 9), x.thunder(5, 5),
        x.thunder(0, 1)}, 1, 2, 3, 4, 5, 6);
    row("noises", noises(x), 11, 0, 0, 0, 0, 5, 0, 0, 0, 10);
    says("BAD; FULL.");
    due("a seventh", x.thunder(1, 1), FULL);
    bads("a wrong seventh", x.thunder(10, 1), x.thunder(0, 10));
    x = new FounderSleeps();
    bads("an hour", x.thunder(-1, 5), x.thunder(10, 5), x.thunder(LEAST, 5), x.thunder(MOST, 5));
    bads("a loudness", x.thunder(5, 0), x.thunder(5, 10), x.thunder(5, LEAST), x.thunder(5, MOST));
    due("none came", x.count(4), 0);

    in("Promise 11");
    says("The last THUNDER is undone: how many are left.");
    x = withThunders(new FounderSleeps(), 1, 1, 2, 2, 3, 3, 4, 4, 5, 5, 6, 6);
    row("two", new int[] {x.back(), x.back()}, 5, 4);
    row("the last ones", noises(x), 0, 1, 2, 3, 4, 0, 0, 0, 0, 0);
    due("room again", x.thunder(9, 9), 5);
    row("all", new int[] {x.back(), x.back(), x.back(), x.back(), x.back()}, 4, 3, 2, 1, 0);
    says("NOT: there is none.");
    row("none", new int[] {x.back(), x.back(), new FounderSleeps().back(), x.count(4)}, NOT, NOT, NOT, 0);
  }

  private void read() {
    in("Promise 12");
    says("THUNDERS from a SHEET: its items, two for each, as many as are whole,");
    for (int form = 0; form <= 2; form++) {
      reads(form, 0, 0);
      reads(form, 0, 0, 3);
      reads(form, 1, 3, 0, 3);
      reads(form, 1, 3, 0, 3, 1);
      reads(form, 2, 7, 0, 3, 1, 4);
      reads(form, 6, 21, 0, 1, 1, 2, 2, 3, 3, 4, 4, 5, 9, 6);
    }
    FounderSleeps x = new FounderSleeps();
    x.sheet(3, 2, 60);
    due("sixty items of 0", x.read(3), 0);

    says("as long as each may be: how many.");
    for (int form = 0; form <= 2; form++) {
      reads(form, 1, 1, 0, 1, 10, 1, 2, 2);
      reads(form, 1, 1, 0, 1, -1, 1, 2, 2);
      reads(form, 1, 9, 9, 9, 5, 10, 2, 2);
      reads(form, 1, 9, 9, 9, 5, 0, 2, 2);
      reads(form, 0, 0, 5, -1, 2, 2);
      reads(form, 6, 9, 0, 1, 0, 2, 0, 1, 0, 2, 0, 1, 0, 2, 0, 9);
    }
    x = withThunders(new FounderSleeps(), 8, 1, 8, 1, 8, 1, 8, 1);
    fill(x, 0, 1, 1, 5, 2, 6, 3, 7);
    row("two have room", new int[] {x.read(0), x.count(4), x.read(0), x.count(4)}, 2, 6, 0, 6);
    row("the first two, behind those told", noises(x), 0, 5, 6, 0, 0, 0, 0, 0, 4, 0);
    due("its last is the last", x.back(), 5);
    due("undone", x.noise(2), 0);
    row("the sheet stays", items(x, 0, 1, 6), 1, 5, 2, 6, 3, 7);

    says("BAD; NULL.");
    bads("a sheet", x.read(-1), x.read(4), x.read(LEAST), x.read(MOST));
    due("no finding", x.count(8), 0);
    due("lost", x.read(1), NULL);
    due("the finding", x.count(8), 1);
    due("the thunders stay", x.count(4), 5);
  }

  private void reads(int form, int many, int noise, int... items) {
    FounderSleeps x = new FounderSleeps();
    fill(x, 2, form, items);
    due(items.length + " items of form " + form, x.read(2), many);
    due("so many stand", x.count(4), many);
    x.set(0, 30);
    int sum = 0;
    for (int at : noises(x)) {
      sum += Math.max(0, at);
    }
    due("noise of " + items.length + " items", sum, noise);
  }

  private void carryAndHeard() {
    in("Promise 13");
    says("What is left of a noise (0 to 99) from a CELL to another one, or the same one (all).");
    FounderSleeps x = town(".hb", "");
    row("edges of loudness", new int[] {x.carry(0, 0, 2), x.carry(5, 0, 2), x.carry(6, 0, 2), x.carry(99, 0, 2)},
        0, 0, 1, 94);
    for (int i = 0; i < 3; i++) {
      row("the same cell", new int[] {x.carry(0, i, i), x.carry(1, i, i), x.carry(99, i, i)}, 0, 1, 99);
    }
    due("not the same back", x.carry(20, 2, 1), 16);
    due("not the same there", x.carry(20, 1, 2), 19);
    due("across the widest town", town(grid(6, 6, 'h'), "").carry(99, 35, 0), 59);
    due("across the widest open town", town(grid(6, 6, '.'), "").carry(99, 0, 35), 89);
    says("BAD: no such.");
    bads("a loudness", x.carry(-1, 0, 0), x.carry(100, 0, 0), x.carry(LEAST, 0, 0), x.carry(MOST, 0, 0));
    bads("a cell", x.carry(9, -1, 0), x.carry(9, 3, 0), x.carry(9, 0, -1), x.carry(9, 0, 3), x.carry(9, 36, 36),
        x.carry(9, LEAST, 0), x.carry(9, 0, MOST), new FounderSleeps().carry(0, 0, 0));

    in("Promise 14");
    says("What is HEARD of a DEED (what = 0), what comes of it (1).");
    x = town("b", "00n0;00w0;00w1;00c5;39n9", 17, 4);
    row("heard", heard(x), 14, 3, 3, 6, 0);
    row("fates", fates(x), 0, 0, 1, 1, 0);
    x.set(0, 16);
    row("he wakes: heard", heard(x), 14, 3, 3, 6, 0);
    row("he wakes: fates", fates(x), 0, 0, 2, 2, 2);
    says("BAD.");
    bads("a deed", x.heard(-1, 0), x.heard(5, 0), x.heard(8, 1), x.heard(LEAST, 0), x.heard(MOST, 0));
    bads("a what", x.heard(0, -1), x.heard(0, 2), x.heard(0, LEAST), x.heard(0, MOST));
    bads("a deed of none", new FounderSleeps().heard(0, 0), new FounderSleeps().heard(0, 1));
  }

  private void noiseAndDepth() {
    in("Promise 15");
    says("NOISE; NONE.");
    FounderSleeps x = withThunders(town("b", "00w0;00c9"), 4, 9, 4, 9, 4, 9);
    row("he wakes in hour 4", noises(x), 3, 0, 0, 0, 27, NONE, NONE, NONE, NONE, NONE);
    x.back();
    row("he does not", noises(x), 3, 0, 0, 0, 18, 0, 0, 0, 0, 6);
    says("BAD.");
    bads("an hour", x.noise(-1), x.noise(10), x.noise(LEAST), x.noise(MOST));

    in("Promise 16");
    says("DEPTH ahead of an HOUR; NONE.");
    row("he does not wake", depths(x), 12, 11, 14, 17, 20, 11, 14, 17, 20, 23);
    x.thunder(4, 9);
    row("he wakes in hour 4", depths(x), 12, 11, 14, 17, 20, NONE, NONE, NONE, NONE, NONE);
    says("BAD.");
    bads("an hour", x.depth(-1), x.depth(10), x.depth(LEAST), x.depth(MOST));
  }

  private void wakesExiledLoudest() {
    in("Promise 17");
    says("WAKES; NONE.");
    row("14 in depth 13, 14, 15", new int[] {town("b", "00n0", 13, 4).wakes(), town("b", "00n0", 14, 4).wakes(),
        town("b", "00n0", 15, 4).wakes()}, 0, NONE, NONE);
    row("30 at most, 31 in hour 9", new int[] {
        withThunders(town("b", "00c9;00c9", 30, 20), 9, 9, 9, 9).wakes(),
        withThunders(town("b", "00c9;00c9", 30, 20), 9, 9, 9, 9, 9, 1).wakes()}, NONE, 9);

    in("Promise 18");
    says("EXILED, CELLS 0 to 17 (half = 0), 18 to 35 (1), as bits.");
    FounderSleeps x = town("......;......;......;b.....;......;......", "18n0;12n1;17n2;00n3;35n4;24n9", 30, 0);
    row("halves", new int[] {x.exiled(0), x.exiled(1)}, 1 | 1 << 12 | 1 << 17, 1 | 1 << 6 | 1 << 17);
    says("BAD.");
    bads("a half", x.exiled(-1), x.exiled(2), x.exiled(LEAST), x.exiled(MOST));

    in("Promise 19");
    says("LOUDEST; NONE.");
    row("first, last, none", new int[] {town("b", "00w0;00w1").loudest(), town("b", "00w0;00c1").loudest(),
        town("b", "").loudest()}, 0, 1, NONE);
  }

  private void hourAndFelt() {
    in("Promise 20");
    says("HOUR: which (what = 0), in which HOUR he WAKES (1; NONE).");
    FounderSleeps x = town("b", "00n0", 2, 4);
    row("hour 4 is the first that is well", new int[] {x.hour(0, 0), x.hour(0, 1)}, 4, NONE);
    x.thunder(9, 9);
    x.thunder(8, 9);
    x.thunder(8, 9);
    x.thunder(8, 9);
    row("in hour 8 he wakes, but for those ahead", new int[] {x.hour(0, 0), x.hour(0, 1)}, 4, 8);
    says("BAD.");
    bads("a deed", x.hour(-1, 0), x.hour(1, 0), x.hour(LEAST, 0), x.hour(MOST, 0), new FounderSleeps().hour(0, 0));
    bads("a what", x.hour(0, -1), x.hour(0, 2), x.hour(0, LEAST), x.hour(0, MOST));

    in("Promise 21");
    says("FELT: how many (i = NONE), the i-th (0, 1; NONE); NONE.");
    int[][] want = {{0, NONE, NONE}, {1, 1, NONE}, {2, 1, 2}, {NONE, NONE, NONE}};
    for (int i = 0; i < 4; i++) {
      x = town("....b", "00n0", 10 - 2 * i, 4);
      row("depth " + (10 - 2 * i), new int[] {x.felt(NONE), x.felt(0), x.felt(1)}, want[i]);
    }
    says("BAD.");
    bads("an i", x.felt(-2), x.felt(2), x.felt(LEAST), x.felt(MOST), new FounderSleeps().felt(2));
  }

  private void layAndWay() {
    in("Promise 22");
    says("BED: which (what = 0; NONE: there are no open CELLS), in which HOUR he WAKES (1; NONE).");
    FounderSleeps x = town("b..", "01n3", 4, 4);
    row("13 are heard in depth 13", new int[] {x.lay(0), x.lay(1)}, 2, NONE);
    x.set(0, 3);
    row("and wake him in depth 12", new int[] {x.lay(0), x.lay(1)}, 1, 3);
    x = town("hfb", "02n0");
    row("no open cells", new int[] {x.lay(0), x.lay(1)}, NONE, NONE);
    row("no cells", new int[] {new FounderSleeps().lay(0), new FounderSleeps().lay(1)}, NONE, NONE);
    says("BAD.");
    bads("a what", x.lay(-1), x.lay(2), x.lay(LEAST), x.lay(MOST), new FounderSleeps().lay(2));

    in("Promise 23");
    says("WAY; NONE.");
    x = town("..b;hf.", "");
    row("ways", new int[] {x.way(0, 0), x.way(0, 1), x.way(0, 5), x.way(5, 5), x.way(2, 5), x.way(3, 3), x.way(0, 4)},
        7, 15, NONE, 8, NONE, NONE, NONE);
    says("BAD: no such CELLS.");
    bads("a cell", x.way(-1, 0), x.way(6, 0), x.way(0, -1), x.way(0, 6), x.way(3, 6), x.way(LEAST, 3), x.way(2, MOST),
        x.way(35, 35), new FounderSleeps().way(0, 0));
  }

  private void listenedAndForget() {
    in("Promise 24");
    says("LISTENED more: how many.");
    FounderSleeps x = town("b", "00w0");
    row("eight", new int[] {x.listened(0, 0), x.listened(0, 99), x.listened(9, 0), x.listened(9, 99), x.listened(5, 5),
        x.listened(5, 5), x.listened(5, 5), x.listened(5, 5)}, 1, 2, 3, 4, 5, 6, 7, 8);
    says("BAD; FULL.");
    due("a ninth", x.listened(0, 0), FULL);
    bads("a wrong ninth", x.listened(10, 0), x.listened(0, 100));
    x.forget();
    bads("an hour", x.listened(-1, 0), x.listened(10, 0), x.listened(LEAST, 0), x.listened(MOST, 0));
    bads("so much", x.listened(0, -1), x.listened(0, 100), x.listened(0, LEAST), x.listened(0, MOST));
    due("none came", x.count(7), 0);

    in("Promise 25");
    says("All that was LISTENED is forgotten: how many.");
    due("none", x.forget(), 0);
    x.listened(0, 1);
    due("it is kept", x.never(), 0);
    due("one", x.forget(), 1);
    due("it is not kept", x.never(), 1);
    for (int i = 0; i < 8; i++) {
      x.listened(0, 1);
    }
    row("eight, and then none", new int[] {x.forget(), x.forget(), x.count(7), x.listened(0, 0)}, 8, 0, 0, 1);
  }

  private void neverAndWhence() {
    in("Promise 26");
    says("NEVER, as bits.");
    FounderSleeps x = town("b", "00w0;00w1;00w2;00w3;00w4;00w5;00w6;00w7", 30, 20);
    due("all eight", x.never(), 255);
    for (int i = 0; i < 8; i++) {
      x.forget();
      x.listened(i, 0);
      due("deed " + i, x.never(), 1 << i);
    }
    due("no deeds", new FounderSleeps().never(), 0);

    in("Promise 27");
    says("WHENCE: how many (i = NONE), the i-th (0 to 35; NONE).");
    x = town(grid(5, 6, '.') + ";.....b", "35w0");
    row("all", new int[] {x.whence(0, NONE), x.whence(0, 0), x.whence(0, 35)}, 36, 0, 35);
    x.listened(0, 2);
    row("two", new int[] {x.whence(0, NONE), x.whence(0, 0), x.whence(0, 1), x.whence(0, 2), x.whence(0, 35)},
        2, 29, 34, NONE, NONE);
    says("BAD.");
    bads("a deed", x.whence(-1, 0), x.whence(1, 0), x.whence(LEAST, 0), x.whence(MOST, NONE),
        new FounderSleeps().whence(0, NONE));
    bads("an i", x.whence(0, -2), x.whence(0, 36), x.whence(0, LEAST), x.whence(0, MOST));
  }

  private void whatAndAsk() {
    in("Promise 28");
    says("WHAT, as bits.");
    FounderSleeps x = town("b", "00w0", 30, 20);
    due("all", x.what(0), 15);
    x.listened(0, 14);
    due("a hammer", x.what(0), 8);
    x.listened(0, 3);
    due("none", x.what(0), 0);
    says("BAD.");
    bads("a deed", x.what(-1), x.what(1), x.what(LEAST), x.what(MOST), new FounderSleeps().what(0));

    in("Promise 29");
    says("ASK.");
    due("in the last hour", town(".b", "00w9").ask(0), 9);
    due("in the first hour", town(".b", "00w0").ask(0), 0);
    says("BAD.");
    bads("a deed", x.ask(-1), x.ask(1), x.ask(LEAST), x.ask(MOST), new FounderSleeps().ask(0));
  }

  private void sleepsAndDay() {
    in("Promise 30");
    says("SLEEPS: above, below.");
    FounderSleeps x = town("b", "00n0");
    long[][] want = {{1, 1}, {15, 16}, {1, 2}, {1, 16}, {0, 1}};
    int[] by = {0, 1, 8, 15, 16};
    for (int i = 0; i < 5; i++) {
      due("above, by " + by[i], x.sleeps(by[i], 0), want[i][0]);
      due("below, by " + by[i], x.sleeps(by[i], 1), want[i][1]);
    }
    says("BAD. (As the least long.)");
    long[] bad = {x.sleeps(-1, 0), x.sleeps(17, 0), x.sleeps(LEAST, 1), x.sleeps(MOST, 1), x.sleeps(0, -1), x.sleeps(16, 2),
        x.sleeps(0, LEAST), x.sleeps(0, MOST), new FounderSleeps().sleeps(17, 2)};
    for (int i = 0; i < bad.length; i++) {
      due("refused " + i, bad[i], -9223372036854775806L);
    }

    in("Promise 31");
    says("DAY: in which HOUR (what = 0; NONE), how many are EXILED (1).");
    x = town("b.", "00n0", 30, 8);
    row("he sleeps", new int[] {x.day(1, 2, 0), x.day(1, 2, 1)}, NONE, 2);
    x.set(0, 0);
    row("he wakes", new int[] {x.day(1, 2, 0), x.day(1, 2, 1)}, 5, 1);
    says("BAD.");
    bads("an n", x.day(1, 0, 0), x.day(1, 9, 0), x.day(1, LEAST, 0), x.day(1, MOST, 0), new FounderSleeps().day(1, 0, 0));
    bads("a what", x.day(1, 1, -1), x.day(1, 1, 2), x.day(1, 8, LEAST), x.day(1, 8, MOST));
  }
}
