/** The edges that 'Terms' names: texts, CELLS, DEEDS, FAULTS, LOTS, SHEETS, FINDINGS. */
final class TermEdges extends Edges {
  TermEdges(Doc doc, Checks checks) {
    super(doc, checks);
  }

  @Override
  void tell() {
    in("What it is");
    says("THE TOWN is a text of up to 41 bytes (text 0)");
    FounderSleeps x = town(grid(6, 6, '.').substring(0, 40), "");
    due("the 41st byte", x.type(0, '.'), 41);
    due("a 42nd", x.type(0, '.'), FULL);
    due("still 41", x.count(2), 41);
    says("An object is used for at most 512 calls after it has been made");
    x = new FounderSleeps();
    for (int i = 1; i <= 511; i++) {
      x.type(i % 2, '.');
    }
    due("the 512th call", x.count(2), 41);

    in("Terms");
    rows();
    cells();
    deeds();
    faults();
    faultsOfTheTown();
    emptyByFault();
    laws();
    fractionsAndLots();
    sheets();
    findings();
    endQuote();
  }

  private void rows() {
    says("ROWS, 6 at most, with ; between them, each of as many CELLS (1 to 6) as the first one:");
    for (int rows = 1; rows <= 6; rows++) {
      for (int wide = 1; wide <= 6; wide++) {
        FounderSleeps x = town(grid(rows, wide, '.'), "");
        due(rows + " rows of " + wide, x.fault(0), NONE);
        due("cells of " + rows + " rows of " + wide, x.count(0), rows * wide);
      }
    }
    for (int wide = 1; wide <= 5; wide++) {
      FounderSleeps x = town(grid(7, wide, '.').substring(0, Math.min(41, 7 * wide + 6)), "");
      due("seven rows of " + wide, x.fault(0), 6 * (wide + 1));
      due("no cells in seven rows of " + wide, x.count(0), 0);
    }
    townFault(";.", 0);
    townFault(".,.", 1);
    townFault("...;..", 6);
    townFault("..;...", 5);
    townFault("..;..;...", 8);

    says(". (open), h (a house), f (felt) or b (a bed).");
    for (int b = 0; b <= 255; b++) {
      FounderSleeps x = new FounderSleeps();
      x.type(0, b);
      int kind = b == '.' ? 0 : b == 'h' ? 1 : b == 'f' ? 2 : b == 'b' ? 3 : NONE;
      due("cell of byte " + b, x.cell(0), kind);
      due("fault of byte " + b, x.fault(0), kind == NONE ? 0 : NONE);
      x = town(".;", "");
      x.type(0, b);
      due("fault of byte " + b + " in a second row", x.fault(0), kind == NONE ? 2 : NONE);
    }
  }

  private void cells() {
    says("CELLS are numbered from 0 on, as they come (0 to 35).");
    FounderSleeps x = town(".h;fb;h.", "");
    row("as they come", new int[] {x.cell(0), x.cell(1), x.cell(2), x.cell(3), x.cell(4), x.cell(5), x.cell(6)},
        0, 1, 2, 3, 1, 0, NONE);
    for (int i = 0; i < 36; i++) {
      x = town(with(grid(6, 6, 'h'), i, 6, 'f'), "");
      due("the felt in cell " + i, x.cell(i), 2);
      due("the one ahead of " + i, x.cell(i - 1), i == 0 ? BAD : 1);
      due("the one behind " + i, x.cell(i + 1), i == 35 ? BAD : 1);
    }

    says("THE BED is the CELL with a bed; NONE: there is none.");
    for (int i = 0; i < 36; i++) {
      due("a bed in cell " + i, town(with(grid(6, 6, '.'), i, 6, 'b'), "").bed(), i);
    }
    due("no bed", town(".hf", "").bed(), NONE);
    due("no town", town("", "").bed(), NONE);
    x = town(".b", "");
    x.undo(0);
    due("a bed undone", x.bed(), NONE);
  }

  private static String with(String grid, int cell, int wide, char sign) {
    StringBuilder s = new StringBuilder(grid);
    s.setCharAt(cell + cell / wide, sign);
    return s.toString();
  }

  private void deeds() {
    says("DEEDS are a text of up to 39 bytes (text 1), 8 at most (0 on), with ; between them:");
    FounderSleeps x = town("", EIGHT);
    due("bytes of eight", x.count(3), 39);
    due("eight", x.count(1), 8);
    row("the first", new int[] {x.deed(0, 0), x.deed(0, 1), x.deed(0, 2)}, 0, 0, 0);
    row("the last", new int[] {x.deed(7, 0), x.deed(7, 1), x.deed(7, 2)}, 35, 3, 7);
    due("a ninth is not", x.deed(8, 0), BAD);
    due("a 40th byte", x.type(1, ';'), FULL);
    for (int many = 1; many <= 8; many++) {
      x = town("", EIGHT.substring(0, 5 * many - 1));
      due(many + " deeds", x.count(1), many);
      due(many + " deeds are well", x.fault(1), NONE);
    }
    deedFault("00w0,00w0", 4);
    deedFault("00w000w0", 4);

    says("a figure 0 to 3 and a figure, the CELL (00 to 39), w (a whisper), c (a cough), k (a cart) or n (a hammer),"
        + " and a figure, the HOUR (0 to 9).");
    for (int cell = 0; cell <= 39; cell++) {
      due("cell " + cell, town("", "" + cell / 10 + cell % 10 + "k4").deed(0, 0), cell);
    }
    for (int i = 0; i <= 9; i++) {
      due("hour " + i, town("", "12n" + i).deed(0, 2), i);
    }
    for (int i = 0; i < 4; i++) {
      due("what " + i, town("", "12" + "wckn".charAt(i) + "3").deed(0, 1), i);
    }
    String[] may = {"0123", "0123456789", "wckn", "0123456789", ";"};
    for (int part = 0; part < 5; part++) {
      for (int b = 0; b <= 255; b++) {
        boolean well = may[part].indexOf(b) >= 0;
        deedBytes(part, b, well);
      }
    }
    due("cell 40", town("", "40w0").fault(1), 0);
  }

  private void deedBytes(int part, int b, boolean well) {
    for (String ahead : new String[] {"", "39n9;"}) {
      FounderSleeps x = town("", (ahead + "00w0").substring(0, ahead.length() + part));
      x.type(1, b);
      Checks.type(x, 1, "00w0;11c1".substring(part + 1, part == 4 ? 9 : 4));
      int want = well ? NONE : ahead.length() + part;
      due("byte " + b + " in place " + part + " behind '" + ahead + "'", x.fault(1), want);
    }
  }

  private void faults() {
    says("The FAULT of a text is the place of the first byte with which it cannot go on");
    townFault("x.x", 0);
    townFault("..x.x", 2);
    townFault("..;x", 3);
    townFault("b;x;b", 2);
    deedFault("x", 0);
    deedFault("00w0;0x0;x", 6);
    deedFault("0000", 2);
    FounderSleeps x = town(".x", "00x");
    Checks.type(x, 0, ";.;bb");
    Checks.type(x, 1, "0;x");
    due("the first of many in a town", x.fault(0), 1);
    due("the first of many in deeds", x.fault(1), 2);

    says("(an empty one is well;");
    x = new FounderSleeps();
    due("a new town", x.fault(0), NONE);
    due("new deeds", x.fault(1), NONE);
    x = town("x", "x");
    x.undo(0);
    x.wipe(1);
    due("undone", x.fault(0), NONE);
    due("wiped", x.fault(1), NONE);

    says("of one that is not ended, or of a ROW that is too short, its end, or its ;),");
    String two = "00w0;39n9;";
    for (int end = 1; end <= two.length(); end++) {
      due("deeds up to " + end, town("", two.substring(0, end)).fault(1), end % 5 == 4 ? NONE : end);
    }
    deedFault(EIGHT.substring(0, 35), 35);
    deedFault(EIGHT.substring(0, 38), 38);
    townFault(".;", 2);
    townFault("......;", 7);
    townFault(";", 0);
    townFault(".;;", 2);
    townFault("..;.", 4);
    townFault("..;.;", 4);
    townFault("..;.;..", 4);
    townFault("..;..;;", 6);
    townFault("......;.....", 12);
    townFault("......;.....;", 12);
    townFault(grid(6, 6, '.').substring(0, 40), 40);
  }

  private void faultsOfTheTown() {
    says("here also of a CELL too many,");
    townFault(".......", 6);
    townFault("......h.", 6);
    townFault(".;..", 3);
    townFault(".....;......", 11);
    townFault("......;.......", 13);
    due("six are not too many", town("......;......", "").fault(0), NONE);

    says("of a second bed,");
    townFault("bb", 1);
    townFault("b;b", 2);
    townFault("b.....;......;......;......;......;.....b", 40);
    townFault("..b;...;.b.;b..", 9);
    due("one bed is well", town("..b;...;...", "").fault(0), NONE);
    FounderSleeps x = town("bb", "");
    x.undo(0);
    x.type(0, 'h');
    due("another cell in its place", x.fault(0), NONE);

    says("of the first byte of a seventh ROW,");
    townFault(".;.;.;.;.;.;.", 12);
    townFault(".;.;.;.;.;.;h;h", 12);
    townFault(".;.;.;.;.;.;;", 12);
    townFault(".;.;.;.;.;.;x", 12);
    townFault(".;.;.;.;.;.;", 12);
    townFault(".....;.....;.....;.....;.....;.....;.....", 36);
    due("six rows are well", town(".;.;.;.;.;.", "").fault(0), NONE);

    says("of a ninth DEED.");
    x = town("", EIGHT);
    for (char b : ";00w0".toCharArray()) {
      due("no byte of a ninth comes", x.type(1, b), FULL);
    }
    due("eight are well", x.fault(1), NONE);
    due("eight stand", x.count(1), 8);
    townFault("00w0", 0);
  }

  private void emptyByFault() {
    says("With a FAULT a text is as if it was empty.");
    FounderSleeps x = town("b..;..x", "00c0;01w1");
    row("counts", counts(x), 0, 2, 7, 9, 0, 2, 0, 0, 0);
    row("calls of the town", new int[] {x.cell(0), x.bed(), x.carry(9, 0, 0), x.way(1, 1), x.lay(0), x.whence(0, NONE)},
        NONE, NONE, BAD, BAD, NONE, 0);
    row("heard", heard(x), 0, 0);
    due("no deeds by chance", x.day(1, 8, 1), 0);
    x.undo(0);
    x.type(0, '.');
    due("mended: cells", x.count(0), 6);
    row("mended: heard", heard(x), 6, 2);

    x = town("b..", "00c0;01w1;");
    row("counts", counts(x), 3, 0, 3, 10, 0, 0, 0, 0, 0);
    row("noises", noises(x), 0, 0, 0, 0, 0, 0, 0, 0, 0, 0);
    row("calls of deeds", new int[] {x.deed(0, 0), x.heard(0, 0), x.hour(0, 0), x.whence(0, 0), x.what(0), x.ask(0)},
        BAD, BAD, BAD, BAD, BAD, BAD);
    due("none is the loudest", x.loudest(), NONE);
    due("none never was", x.never(), 0);
    due("he sleeps", x.sleeps(16, 1), 1);
    x.undo(1);
    row("mended: noises", noises(x), 6, 2, 0, 0, 0, 0, 0, 0, 0, 0);
    x.type(1, 'x');
    due("again at fault", x.count(1), 0);
    x.wipe(1);
    due("wiped", x.fault(1), NONE);
  }

  private void laws() {
    says("HOURS are 0 to 9.");
    FounderSleeps x = town("b", "00c0;00w9", 12, 20);
    row("noises", noises(x), 6, 0, 0, 0, 0, 0, 0, 0, 0, 3);
    row("hours that are not", new int[] {x.noise(-1), x.noise(10), x.depth(-1), x.depth(10), x.thunder(-1, 1),
        x.thunder(10, 1), x.listened(-1, 1), x.listened(10, 1)}, BAD, BAD, BAD, BAD, BAD, BAD, BAD, BAD);
    due("thunder in hour 0", x.thunder(0, 1), 1);
    due("thunder in hour 9", x.thunder(9, 1), 2);

    says("DEPTH (0 to 30; 12 at first), CHARTER (0 to 20; 4 at first).");
    x = new FounderSleeps();
    due("12 at first", x.set(0, 0), 12);
    due("0 was", x.set(0, 30), 0);
    due("31", x.set(0, 31), BAD);
    due("-1", x.set(0, -1), BAD);
    due("30 was", x.set(0, 7), 30);
    due("4 at first", x.set(1, 0), 4);
    due("0 was", x.set(1, 20), 0);
    due("21", x.set(1, 21), BAD);
    due("-1", x.set(1, -1), BAD);
    due("20 was", x.set(1, 7), 20);
    due("the other stays", x.set(0, 7), 7);

    says("THUNDERS, 6 at most (0 on): each in an HOUR, so LOUD (1 to 9).");
    x = new FounderSleeps();
    due("0 loud", x.thunder(4, 0), BAD);
    due("10 loud", x.thunder(4, 10), BAD);
    for (int i = 1; i <= 6; i++) {
      due("thunder " + i, x.thunder(i, i == 1 ? 9 : 1), i);
    }
    due("a seventh", x.thunder(7, 1), FULL);
    row("noises", noises(x), 0, 9, 1, 1, 1, 1, 1, 0, 0, 0);
  }

  private void fractionsAndLots() {
    says("FRACTIONS are told in lowest terms, above and below (0 by 1).");
    FounderSleeps x = town("b", "00n0");
    long[][] want = {{1, 1}, {15, 16}, {7, 8}, {13, 16}, {3, 4}, {11, 16}, {5, 8}, {9, 16}, {1, 2}, {7, 16}, {3, 8},
        {5, 16}, {1, 4}, {3, 16}, {1, 8}, {1, 16}, {0, 1}};
    for (int c = 0; c <= 16; c++) {
      due("above, by " + c, x.sleeps(c, 0), want[c][0]);
      due("below, by " + c, x.sleeps(c, 1), want[c][1]);
    }

    says("LOTS of m: SEED becomes 1103515245 SEED and 12345, as ints that wrap; its upper 16 bits as a number from 0 on,"
        + " modulo m.");
    int[] seeds = {0, 1, -1, 2, 7, -7, 12345, 65535, 65536, -65536, 1103515245, -1103515245, Integer.MAX_VALUE,
        Integer.MIN_VALUE, Integer.MAX_VALUE - 1, Integer.MIN_VALUE + 1, 99999999, -99999999};
    for (int seed : seeds) {
      for (int more = 0; more < 8; more++) {
        lots(seed + more * 40503);
      }
    }
  }

  /** One deed in an open row with the bed at its start: what is left of it can be told by its cell. */
  private void lots(int seed) {
    for (int cells = 1; cells <= 6; cells++) {
      FounderSleeps x = town("b.....".substring(0, cells), "", 0, 3);
      Lots lots = new Lots(seed);
      int cell = lots.next(cells);
      int loud = Math.max(0, new int[] {3, 6, 9, 14}[lots.next(4)] - cell);
      int hour = lots.next(10);
      boolean wakes = loud > Math.min(30, 3 * hour);
      due("hour by seed " + seed + " of " + cells, x.day(seed, 1, 0), wakes ? hour : NONE);
      due("exiled by seed " + seed + " of " + cells, x.day(seed, 1, 1), !wakes && loud > 3 ? 1 : 0);
    }
  }

  private void sheets() {
    says("SHEETS 0 .. 3 are LOST (at first) or a row of a FORM: 0 bytes, 1 shorts, 2 ints, of 0 to 60 items (0 at first).");
    FounderSleeps x = new FounderSleeps();
    for (int s = 0; s <= 3; s++) {
      due("lost at first: " + s, x.lose(s), NULL);
    }
    for (int form = 0; form <= 2; form++) {
      for (int n : new int[] {0, 1, 59, 60}) {
        due(n + " items of form " + form, x.sheet(3, form, n), n);
        for (int i = 0; i < n; i++) {
          due("0 at first: item " + i, x.get(3, form, i), 0);
          x.put(3, form, i, -1);
        }
        due("no item " + n, x.get(3, form, n), LEAST);
      }
      due("61 items", x.sheet(3, form, 61), BAD);
    }
    row("no such sheets and forms", new int[] {x.sheet(-1, 0, 1), x.sheet(4, 0, 1), x.sheet(0, -1, 1), x.sheet(0, 3, 1)},
        BAD, BAD, BAD, BAD);
    int[] values = {127, 128, 255, 256, -128, -129, 32767, 32768, 65535, 65536, -32768, -32769, Integer.MAX_VALUE,
        Integer.MIN_VALUE};
    for (int i = 0; i < values.length; i++) {
      for (int form = 0; form <= 2; form++) {
        x.sheet(form, form, 1);
        x.put(form, form, 0, values[i]);
      }
      due(values[i] + " as a byte", x.get(0, 0, 0), (byte) values[i]);
      due(values[i] + " as a short", x.get(1, 1, 0), (short) values[i]);
      due(values[i] + " as an int", x.get(2, 2, 0), values[i]);
    }
  }

  private void findings() {
    says("FINDINGS (answers -10 less the number; they change nothing but count() 8):");
    FounderSleeps x = new FounderSleeps();
    fill(x, 0, 0, 1, 2);
    fill(x, 1, 1, 3, 4);
    long before = x.digest();
    int[] answers = {x.lose(2), x.put(0, 0, 2, 9), x.put(0, 1, 0, 9), x.copy(0, 0, 1, 0, 1), x.sheet(0, 0, -1)};
    row("answers", answers, -11, -12, -13, -14, -15);
    due("all else is as it was", x.digest(), before);
    row("sheet 0", items(x, 0, 0, 2), 1, 2);
    row("sheet 1", items(x, 1, 1, 2), 3, 4);

    says("1 NULL: the SHEET is LOST;");
    due("lose", x.lose(3), NULL);
    due("told", x.count(8), 1);
    says("2 INDEX: there is no such item;");
    due("item -1", x.put(1, 1, -1, 0), INDEX);
    due("item 2 of two", x.put(1, 1, 2, 0), INDEX);
    due("told", x.count(8), 2);
    says("3 CAST: it has another FORM;");
    due("a byte as an int", x.put(0, 2, 0, 0), CAST);
    due("told", x.count(8), 3);
    says("4 STORE: unlike FORMS;");
    due("shorts to bytes", x.copy(1, 0, 0, 0, 1), STORE);
    due("told", x.count(8), 4);
    says("5 SIZE: below 0.");
    due("-1 items", x.sheet(3, 2, -1), SIZE);
    due("told", x.count(8), 5);
    due("least items", x.sheet(3, 2, LEAST), SIZE);
  }

  private void townFault(String text, int at) {
    FounderSleeps x = town(text, "");
    due("town " + text, x.fault(0), at);
    due("cells of " + text, x.count(0), 0);
  }

  private void deedFault(String text, int at) {
    FounderSleeps x = town("", text);
    due("deeds " + text, x.fault(1), at);
    due("deeds in " + text, x.count(1), 0);
  }
}
