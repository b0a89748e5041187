/** For each promise of the document: ordinary calls, the edges that it names, and wrong ones; reckoned by hand, but for some days and digests. */
public final class PromiseTests extends Towns {
  private static final Checks CHECKS = new Checks("promises");
  private static int promise;

  private static void due(String what, long got, long want) {
    CHECKS.due("promise " + promise + ", " + what, got, want);
  }

  private static void row(String what, int[] got, int... want) {
    due(what + ": how many", got.length, want.length);
    for (int i = 0; i < want.length && i < got.length; i++) {
      due(what + " [" + i + "]", got[i], want[i]);
    }
  }

  public static void main(String[] args) {
    texts();
    cellsAndDeeds();
    thunders();
    noise();
    sleep();
    plans();
    ways();
    ears();
    chance();
    sheetsMadeAndLost();
    items();
    copies();
    counts();
    digests();
    CHECKS.end();
  }

  private static void texts() {
    promise = 1;
    FounderSleeps x = new FounderSleeps();
    for (int i = 0; i <= 8; i++) {
      due("count " + i, x.count(i), 0);
    }
    due("bed", x.bed(), NONE);
    row("depths", depths(x), 12, 15, 18, 21, 24, 27, 30, 30, 30, 30);
    for (int s = 0; s < 4; s++) {
      due("lose " + s, x.lose(s), NULL);
    }

    promise = 2;
    x = new FounderSleeps();
    due("text -1", x.type(-1, 46), BAD);
    due("text 2", x.type(2, 46), BAD);
    due("byte -1", x.type(0, -1), BAD);
    due("byte 256", x.type(0, 256), BAD);
    due("byte 0", x.type(1, 0), 1);
    due("byte 255", x.type(1, 255), 2);
    for (int i = 1; i <= 41; i++) {
      due("byte " + i + " of 41", x.type(0, 46), i);
    }
    due("one too many", x.type(0, 46), FULL);
    due("a wrong byte where it is full", x.type(0, 256), BAD);
    due("as before", x.count(2), 41);
    for (int i = 3; i <= 39; i++) {
      due("byte " + i + " of 39", x.type(1, 46), i);
    }
    due("one too many", x.type(1, 46), FULL);

    promise = 3;
    due("wipe 0", x.wipe(0), 41);
    due("wipe 0 again", x.wipe(0), 0);
    due("the other one stays", x.count(3), 39);
    due("wipe 1", x.wipe(1), 39);
    due("wipe -1", x.wipe(-1), BAD);
    due("wipe 2", x.wipe(2), BAD);
    x = town("b.", "01c1");
    x.wipe(0);
    due("no cells then", x.count(0), 0);
    due("nothing heard then", x.noise(1), 0);

    promise = 4;
    x = town("b.x", "00w0");
    due("undo of what is wrong", x.undo(0), 2);
    due("two cells then", x.count(0), 2);
    due("undo of the hour", x.undo(1), 3);
    due("no deed then", x.count(1), 0);
    due("undo", x.undo(0), 1);
    due("undo", x.undo(0), 0);
    due("undo of an empty one", x.undo(0), NOT);
    due("undo -1", x.undo(-1), BAD);
    due("undo 2", x.undo(2), BAD);
    faults();
  }

  private static void faults() {
    promise = 5;
    due("text -1", new FounderSleeps().fault(-1), BAD);
    due("text 2", new FounderSleeps().fault(2), BAD);
    String[] towns = {"", ".", "b", ".hfb;....", "......;......;......;......;......;.....b", ".;.;.;.;.;b"};
    for (String t : towns) {
      due("town " + t, town(t, "").fault(0), NONE);
    }
    townFault("x", 0);
    townFault(";", 0);
    townFault(".;", 2);
    townFault(".;;", 2);
    townFault("..;.", 4);
    townFault("..;.;..", 4);
    townFault("..;.x", 4);
    townFault("..;...", 5);
    townFault(".......", 6);
    townFault("......b", 6);
    townFault("bb", 1);
    townFault("b.;.b", 4);
    townFault(".;.;.;.;.;.;", 12);
    townFault(".;.;.;.;.;.;.", 12);
    townFault(".;.;.;.;.;.;;", 12);
    townFault(".B", 1);
    townFault(". ", 1);
    String[] deeds = {"", "00w0", "39n9", "00w0;10c1;20k2;30n3;05w4;15c5;25k6;35n7"};
    for (String d : deeds) {
      due("deeds " + d, town("", d).fault(1), NONE);
    }
    deedFault("4", 0);
    deedFault("w", 0);
    deedFault("0", 1);
    deedFault("0w", 1);
    deedFault("00", 2);
    deedFault("00x", 2);
    deedFault("00w", 3);
    deedFault("00ww", 3);
    deedFault("00w0;", 5);
    deedFault("00w01", 4);
    deedFault("00w0;;", 5);
    deedFault("00w0;00w", 8);
    deedFault(";", 0);
    deedFault("0/w0", 1);
    deedFault("0:w0", 1);
    FounderSleeps x = town("x", "x");
    x.wipe(0);
    x.undo(1);
    due("an empty town is well", x.fault(0), NONE);
    due("empty deeds are well", x.fault(1), NONE);
    x = town("b.x", "01c0;");
    due("with a fault no cells", x.count(0), 0);
    due("with a fault no bed", x.bed(), NONE);
    due("with a fault no deeds", x.count(1), 0);
    due("its bytes are there", x.count(2), 3);
  }

  private static void townFault(String text, int at) {
    FounderSleeps x = town(text, "");
    due("town " + text, x.fault(0), at);
    due("cells of " + text, x.count(0), 0);
  }

  private static void deedFault(String text, int at) {
    FounderSleeps x = town("", text);
    due("deeds " + text, x.fault(1), at);
    due("deeds in " + text, x.count(1), 0);
  }

  private static void cellsAndDeeds() {
    promise = 6;
    FounderSleeps x = town(".h;fb", "");
    row("cells", new int[] {x.cell(0), x.cell(1), x.cell(2), x.cell(3), x.cell(4), x.cell(35)}, 0, 1, 2, 3, NONE, NONE);
    due("cell -1", x.cell(-1), BAD);
    due("cell 36", x.cell(36), BAD);
    x.type(0, 'x');
    due("a cell where there is a fault", x.cell(0), NONE);
    due("the last cell", town("......;......;......;......;......;.....h", "").cell(35), 1);

    promise = 7;
    due("bed", town(".h;fb", "").bed(), 3);
    due("bed in the first cell", town("b", "").bed(), 0);
    due("no bed", town("...", "").bed(), NONE);

    promise = 8;
    x = town("", "39n9;07k4");
    row("deeds", new int[] {x.deed(0, 0), x.deed(0, 1), x.deed(0, 2), x.deed(1, 0), x.deed(1, 1), x.deed(1, 2)},
        39, 3, 9, 7, 2, 4);
    due("a whisper", town("", "00w0").deed(0, 1), 0);
    due("a cough", town("", "00c0").deed(0, 1), 1);
    due("deed -1", x.deed(-1, 0), BAD);
    due("deed 2 of two", x.deed(2, 0), BAD);
    due("what -1", x.deed(0, -1), BAD);
    due("what 3", x.deed(0, 3), BAD);

    promise = 9;
    x = new FounderSleeps();
    due("depth", x.set(0, 30), 12);
    due("depth above", x.set(0, 31), BAD);
    due("depth below", x.set(0, -1), BAD);
    due("depth", x.set(0, 0), 30);
    due("charter", x.set(1, 20), 4);
    due("charter above", x.set(1, 21), BAD);
    due("charter below", x.set(1, -1), BAD);
    due("charter", x.set(1, 0), 20);
    due("what -1", x.set(-1, 1), BAD);
    due("what 2", x.set(2, 1), BAD);
    due("depth is set", x.depth(0), 0);
    due("depth is set", x.depth(9), 27);
  }

  private static void thunders() {
    promise = 10;
    FounderSleeps x = new FounderSleeps();
    due("hour -1", x.thunder(-1, 1), BAD);
    due("hour 10", x.thunder(10, 1), BAD);
    due("loud 0", x.thunder(0, 0), BAD);
    due("loud 10", x.thunder(0, 10), BAD);
    for (int i = 1; i <= 6; i++) {
      due("thunder " + i, x.thunder(9, i), i);
    }
    due("a seventh", x.thunder(0, 1), FULL);
    due("a wrong seventh", x.thunder(0, 0), BAD);
    due("all of that hour", x.noise(9), 21);
    due("none in others", x.noise(0), 0);

    promise = 11;
    due("back", x.back(), 5);
    due("noise", x.noise(9), 15);
    for (int i = 4; i >= 0; i--) {
      due("back", x.back(), i);
    }
    due("back of none", x.back(), NOT);

    promise = 12;
    x = new FounderSleeps();
    due("sheet -1", x.read(-1), BAD);
    due("sheet 4", x.read(4), BAD);
    due("a lost one", x.read(0), NULL);
    due("the finding", x.count(8), 1);
    x.thunder(5, 5);
    fill(x, 0, 0, 1, 3, 2, 9, 7);
    due("two and a half", x.read(0), 2);
    due("behind the one told before", x.count(4), 3);
    row("noises", noises(x), 0, 3, 9, 0, 0, 5, 0, 0, 0, 0);
    fill(x, 1, 2, 4, 1, 9, 2);
    due("two more", x.read(1), 2);
    row("noises", noises(x), 0, 3, 9, 0, 1, 5, 0, 0, 0, 2);
    due("only one has room", x.read(0), 1);
    row("noises", noises(x), 0, 6, 9, 0, 1, 5, 0, 0, 0, 2);
    due("none has room", x.read(0), 0);
    due("the last of the sheet is undone first", x.back(), 5);
    due("then those ahead", x.back(), 4);
    row("noises", noises(x), 0, 3, 9, 0, 1, 5, 0, 0, 0, 0);
    x.sheet(1, 0, 0);
    due("an empty one", x.read(1), 0);
    due("it takes none away", x.count(4), 4);
    x.lose(1);
    due("nor does a lost one", x.read(1), NULL);
    due("all four stand", x.thunder(0, 1), 5);
    reads("one item is no whole one", 0, 3);
    reads("up to a wrong hour", 1, 1, 3, 10, 2, 3, 3);
    reads("up to an hour below 0", 1, 1, 3, -1, 2, 3, 3);
    reads("up to a wrong loudness", 2, 0, 1, 0, 2, 0, 0, 3, 3);
    reads("up to one too loud", 0, 0, 10, 0, 2);
    reads("six at most", 6, 0, 1, 0, 1, 0, 1, 0, 1, 0, 1, 0, 1, 0, 1);
  }

  private static void reads(String what, int many, int... items) {
    for (int form = 0; form < 3; form++) {
      FounderSleeps x = new FounderSleeps();
      fill(x, 3, form, items);
      due(what, x.read(3), many);
      due(what + ": they stand", x.count(4), many);
    }
  }

  private static void noise() {
    promise = 13;
    FounderSleeps x = town(".h.b", "");
    due("by a house", x.carry(20, 0, 3), 14);
    due("back again", x.carry(20, 3, 0), 14);
    due("into a house", x.carry(20, 0, 1), 16);
    due("out of a house", x.carry(20, 1, 0), 19);
    due("into the bed", x.carry(20, 2, 3), 19);
    due("the same", x.carry(20, 1, 1), 20);
    due("nothing is left", x.carry(5, 0, 3), 0);
    due("just nothing", x.carry(6, 0, 3), 0);
    due("just something", x.carry(7, 0, 3), 1);
    due("loud 0", x.carry(0, 0, 0), 0);
    due("loud 99", x.carry(99, 0, 3), 93);
    due("loud 100", x.carry(100, 0, 3), BAD);
    due("loud -1", x.carry(-1, 0, 3), BAD);
    due("from -1", x.carry(9, -1, 3), BAD);
    due("from 4", x.carry(9, 4, 3), BAD);
    due("to -1", x.carry(9, 3, -1), BAD);
    due("to 4", x.carry(9, 3, 4), BAD);
    due("felt", town(".f.", "").carry(20, 0, 2), 16);
    due("round felt in the long way", town(".f.;...", "").carry(20, 0, 2), 16);
    due("round a house", town(".h.;...", "").carry(20, 0, 2), 16);
    due("through a house where round it is worse", town(".h.;.h.;.h.;...", "").carry(20, 0, 2), 15);
    due("from the second row up", town(".;.", "").carry(20, 1, 0), 19);
    due("not round the end of a row", town("..;..", "").carry(20, 1, 2), 18);

    promise = 14;
    x = town(".h.b", "00n0;02w1;03c2;00w3;04n4;02k1", 30, 4);
    int[] heard = new int[6];
    int[] fates = new int[6];
    for (int i = 0; i < 6; i++) {
      heard[i] = x.heard(i, 0);
      fates[i] = x.heard(i, 1);
    }
    row("heard", heard, 8, 2, 6, 0, 0, 8);
    row("fates: 0 is exiled in hour 0", fates, 0, 0, 0, 1, 0, 0);
    due("deed -1", x.heard(-1, 0), BAD);
    due("deed 6", x.heard(6, 0), BAD);
    due("what -1", x.heard(0, -1), BAD);
    due("what 2", x.heard(0, 2), BAD);
    due("without a bed", town("..", "00n0").heard(0, 0), 0);
    due("without a town", town("", "00n0").heard(0, 0), 0);
    x = town("b.", "00n1;01w2;00w0;01w1", 0, 20);
    row("he wakes in hour 0", new int[] {x.heard(0, 1), x.heard(1, 1), x.heard(2, 1), x.heard(3, 1)}, 2, 2, 0, 2);
  }

  private static void sleep() {
    promise = 15;
    FounderSleeps x = town(".h.b", "00n0;02w1;03c2;00w3;04n4;02k1");
    x.thunder(9, 7);
    x.thunder(2, 1);
    row("noises", noises(x), 8, 10, NONE, NONE, NONE, NONE, NONE, NONE, NONE, NONE);
    x.set(0, 30);
    row("noises", noises(x), 8, 10, 7, 0, 0, 0, 0, 0, 0, 7);
    due("hour -1", x.noise(-1), BAD);
    due("hour 10", x.noise(10), BAD);

    promise = 16;
    row("depths", depths(x), 30, 26, 21, 18, 21, 24, 27, 30, 30, 30);
    x.set(0, 12);
    row("depths", depths(x), 12, 8, NONE, NONE, NONE, NONE, NONE, NONE, NONE, NONE);
    due("hour -1", x.depth(-1), BAD);
    due("hour 10", x.depth(10), BAD);

    promise = 17;
    due("above depth", x.wakes(), 1);
    due("as much as depth", town("b.", "01n3", 4, 20).wakes(), NONE);
    due("one more than depth", town("b.", "01n3", 3, 20).wakes(), 3);
    due("no noise and no depth", town("b.", "", 0, 0).wakes(), NONE);
    due("halves are cut", town("b", "00w0;00w1", 3, 20).wakes(), 1);

    promise = 18;
    x = town("......;......;......;......;......;.....b", "29n0;34n1;33n2;18w5", 30, 4);
    due("cells 0 to 17", x.exiled(0), 0);
    due("cells 18 to 35", x.exiled(1), 1 << 11 | 1 << 16 | 1 << 15);
    x = town("b.", "00k0;01n1;00n2;01c3", 12, 20);
    due("not by more than the charter", x.exiled(0), 0);
    x.set(1, 13);
    due("by more than the charter, but he wakes", x.exiled(0), 0);
    x = town("b.", "00k0;01n1;00n2;01c3", 12, 8);
    due("the first is exiled, the second wakes him", x.exiled(0), 1);
    due("he wakes", x.wakes(), 1);
    x = town("b.", "00k0;01c1;00n2;01c3", 15, 4);
    due("both", x.exiled(0), 3);
    due("those exiled do nothing", x.wakes(), NONE);
    x = town("b.", "00c0;00c0;00c1", 12, 4);
    due("in the same hour both are done", x.noise(0), 12);
    due("half -1", x.exiled(-1), BAD);
    due("half 2", x.exiled(2), BAD);

    promise = 19;
    due("the first of like ones", town("b.", "01w0;00w1;00w2", 12, 20).loudest(), 1);
    due("of those done", town("b.", "00w0;00n1", 12, 0).loudest(), 0);
    due("of those done ahead", town("b.", "01c0;00n1", 0, 0).loudest(), 0);
    due("what is not heard", town("", "00n0").loudest(), 0);
    due("the one that wakes him", town("b.", "00w0;00n1").loudest(), 1);
    due("no deeds", town("b.", "").loudest(), NONE);
    x = town("b", "00n5");
    x.set(0, 0);
    x.thunder(0, 1);
    due("none is done", x.loudest(), NONE);
  }

  private static void plans() {
    promise = 20;
    FounderSleeps x = town("b", "00n0");
    due("an hour later it is well", x.hour(0, 0), 1);
    due("never", x.hour(0, 1), NONE);
    x.set(0, 0);
    due("when he sleeps deep enough", x.hour(0, 0), 5);
    x.thunder(3, 9);
    due("behind thunder", x.hour(0, 0), 7);
    x.thunder(0, 1);
    due("he wakes all the same", x.hour(0, 0), 0);
    due("in hour 0", x.hour(0, 1), 0);
    x = town("b", "00n0");
    for (int i = 0; i < 4; i++) {
      x.thunder(9, 9);
    }
    due("the least of like ones", x.hour(0, 0), 1);
    due("in hour 9", x.hour(0, 1), 9);
    due("its own hour stays", x.deed(0, 2), 0);
    due("and wakes him", x.wakes(), 0);
    due("deed -1", x.hour(-1, 0), BAD);
    due("deed 1", x.hour(1, 0), BAD);
    due("what -1", x.hour(0, -1), BAD);
    due("what 2", x.hour(0, 2), BAD);

    promise = 21;
    felts(town("..b", "00c0", 4, 4), 0, NONE, NONE);
    felts(town("..b", "00c0", 3, 4), 1, 1, NONE);
    felts(town("...b", "00k0", 3, 4), 2, 1, 2);
    felts(town("...b", "00k0", 1, 4), NONE, NONE, NONE);
    felts(town(".hb", "00n0", 8, 4), NONE, NONE, NONE);
    felts(town("...;h.b", "00c0", 2, 4), 1, 1, NONE);
    felts(town("..;bh", "01c0", 3, 4), 1, 0, NONE);
    felts(town("...;bhh", "02k0", 3, 4), 2, 0, 1);
    x = town("..b", "00c0", 3, 4);
    due("i -2", x.felt(-2), BAD);
    due("i 2", x.felt(2), BAD);
    due("the town stays", x.cell(1), 0);
    due("and he wakes", x.wakes(), 0);
    due("one is needed", x.felt(NONE), 1);
    x.set(0, 4);
    due("anew, as depth is another", x.felt(NONE), 0);
    due("anew, as depth is another", x.felt(0), NONE);
    x.type(0, '.');
    x.set(0, 3);
    due("anew, as the town is another", x.felt(NONE), 1);
    x.thunder(9, 9);
    x.thunder(9, 9);
    x.thunder(9, 9);
    x.thunder(9, 9);
    due("nothing helps where it thunders", x.felt(NONE), NONE);
    x.back();
    x.back();
    due("anew, as thunder is undone", x.felt(NONE), 1);

    promise = 22;
    x = town("b..", "00n0");
    due("where it is still", x.lay(0), 2);
    due("never", x.lay(1), NONE);
    due("the bed stays", x.bed(), 0);
    due("its own is none of them", town("bh", "01n0").lay(0), NONE);
    due("its own is none of them", town("bh", "01n0").lay(1), NONE);
    due("the least", town("b..", "").lay(0), 1);
    due("without a bed", town("..", "").lay(0), 0);
    due("no town", town("", "").lay(0), NONE);
    due("its own cell is open to noise", town(".b.", "00n0", 11, 20).lay(1), 0);
    due("its own cell is open to noise", town(".b.", "00n0", 12, 20).lay(0), 2);
    x = town("b..", "02n4", 0, 20);
    x.thunder(5, 9);
    due("latest, the least of like ones", x.lay(0), 1);
    due("in which hour", x.lay(1), 4);
    due("what -1", x.lay(-1), BAD);
    due("what 2", x.lay(2), BAD);
  }

  private static void felts(FounderSleeps x, int many, int first, int second) {
    due("felt", x.felt(NONE), many);
    due("felt 0", x.felt(0), first);
    due("felt 1", x.felt(1), second);
  }

  private static void ways() {
    promise = 23;
    FounderSleeps x = town("...h;.h.b;...h", "");
    due("round by the still side", x.way(1, 9), 26);
    due("round by the short side", x.way(2, 10), 22);
    due("one cell", x.way(0, 0), 5);
    due("from a house", x.way(5, 0), NONE);
    due("to a house", x.way(0, 5), NONE);
    due("to the bed", x.way(0, 7), NONE);
    due("from the bed", x.way(7, 0), NONE);
    due("from -1", x.way(-1, 0), BAD);
    due("from 12", x.way(12, 0), BAD);
    due("to -1", x.way(0, -1), BAD);
    due("to 12", x.way(0, 12), BAD);
    due("not by felt", town(".f.", "").way(0, 2), NONE);
    due("not by the bed", town(".b.", "").way(0, 2), NONE);
    due("no bed, nothing heard", town("...", "").way(0, 2), 0);
    due("in a row", town("..b", "").way(0, 1), 15);
    due("out of hearing", town("..hhhb", "").way(0, 1), 0);
  }

  private static void ears() {
    promise = 24;
    FounderSleeps x = town("b.", "00w0");
    due("hour -1", x.listened(-1, 0), BAD);
    due("hour 10", x.listened(10, 0), BAD);
    due("much -1", x.listened(0, -1), BAD);
    due("much 100", x.listened(0, 100), BAD);
    for (int i = 1; i <= 8; i++) {
      due("listened", x.listened(9, 99), i);
    }
    due("a ninth", x.listened(0, 0), FULL);
    due("a wrong ninth", x.listened(10, 0), BAD);

    promise = 25;
    due("forget", x.forget(), 8);
    due("forget again", x.forget(), 0);

    promise = 26;
    x = town("b.", "00w1;01k2;00w1", 30, 20);
    due("nothing was listened: each may be", x.never(), 7);
    x.listened(1, 3);
    due("one of two whispers", x.never(), 5);
    x.listened(2, 8);
    due("one of two whispers, and the cart", x.never(), 5);
    x.listened(3, 1);
    due("none makes it so", x.never(), 0);
    x.forget();
    x.listened(1, 6);
    x.listened(2, 0);
    due("the cart", x.never(), 2);
    x = town("b", "00n0;00w3", 0, 20);
    x.listened(3, 0);
    due("where he woke ahead nothing was listened, not even 0", x.never(), 0);
    x.forget();
    x.listened(3, 3);
    due("had the hammer not been", x.never(), 1);
    due("no deeds", town("b", "").never(), 0);

    promise = 27;
    x = town("..b..", "00c1;04w1", 12, 20);
    due("all of them", x.whence(0, NONE), 5);
    x.listened(1, 6);
    whences(x, 0, 1, 3);
    x.listened(1, 7);
    whences(x, 0);
    x.forget();
    x.listened(1, 5);
    whences(x, 1, 0, 4);
    due("its own cell stays", x.deed(1, 0), 4);
    due("deed -1", x.whence(-1, 0), BAD);
    due("deed 2", x.whence(2, 0), BAD);
    due("i -2", x.whence(0, -2), BAD);
    due("i 36", x.whence(0, 36), BAD);
    due("i 35", x.whence(0, 35), NONE);
    due("no cells", town("", "00w0").whence(0, NONE), 0);
    due("a deed from nowhere may be from where there is one", town("b.", "39w0").whence(0, NONE), 2);
    whatAndAsk();
  }

  private static void whences(FounderSleeps x, int deed, int... cells) {
    due("whence", x.whence(deed, NONE), cells.length);
    for (int i = 0; i < cells.length; i++) {
      due("whence " + i, x.whence(deed, i), cells[i]);
    }
    due("no more", x.whence(deed, cells.length), NONE);
  }

  private static void whatAndAsk() {
    promise = 28;
    FounderSleeps x = town("b.", "01w1;01c9", 30, 20);
    due("all of them", x.what(0), 15);
    x.listened(1, 2);
    due("a whisper", x.what(0), 1);
    x.forget();
    x.listened(1, 13);
    due("a hammer", x.what(0), 8);
    x.listened(9, 5);
    due("a hammer", x.what(0), 8);
    x.listened(9, 4);
    due("nothing", x.what(0), 0);
    due("its own stays", x.deed(0, 1), 0);
    x = town("hb", "00w1", 8, 20);
    x.listened(2, 0);
    due("all by which he sleeps", x.what(0), 7);
    due("deed -1", x.what(-1), BAD);
    due("deed 1", x.what(1), BAD);

    promise = 29;
    x = town("..b..", "00c1;04w1", 12, 20);
    due("in its hour it can be told best", x.ask(0), 1);
    x.listened(1, 6);
    due("all are alike everywhere", x.ask(0), 0);
    x = town("..b..", "01c1;03k5", 12, 4);
    due("the least of all, not the last that is less than the first", x.ask(0), 1);
    x.listened(1, 5);
    whences(x, 0, 1, 3);
    due("a later hour tells who is exiled", x.ask(0), 5);
    x = town("..b..", "00n1", 0, 20);
    due("behind his waking all are alike by NONE", x.ask(0), 1);
    x = town(".b.", "00w0", 12, 20);
    x.listened(0, 2);
    due("the least of like ones", x.ask(0), 0);
    due("no cells", town("", "00w3").ask(0), 0);
    due("deed -1", x.ask(-1), BAD);
    due("deed 1", x.ask(1), BAD);
  }

  private static void chance() {
    promise = 30;
    FounderSleeps x = town("b", "00n0");
    fraction(x, 5, 11, 16);
    fraction(x, 4, 3, 4);
    fraction(x, 16, 0, 1);
    fraction(x, 0, 1, 1);
    fraction(town("b", "00n0;00n0"), 5, 121, 256);
    fraction(town("b", "00n0;00n0;00n0;00n0;00n0;00n0;00n0;00n0"), 1, 2562890625L, 4294967296L);
    fraction(town("b", "00k0;00k0"), 8, 3, 4);
    fraction(town("b", "00k0;00n5"), 3, 1, 1);
    fraction(town("", ""), 7, 1, 1);
    x = town("", "00w0");
    x.set(0, 0);
    x.thunder(0, 1);
    fraction(x, 7, 0, 1);
    // A cough exiles the cell, and so keeps its hammer from waking him: he wakes by the hammer alone.
    fraction(town("b", "00c0;00n1", 9, 4), 4, 13, 16);
    due("c -1", x.sleeps(-1, 0), Long.MIN_VALUE + 2);
    due("c 17", x.sleeps(17, 0), Long.MIN_VALUE + 2);
    due("what -1", x.sleeps(1, -1), Long.MIN_VALUE + 2);
    due("what 2", x.sleeps(1, 2), Long.MIN_VALUE + 2);

    promise = 31;
    x = town("b", "00n0");
    x.set(1, 0);
    // Lots from seed 1: 16838 38526 10113, 50283 63819 38395, ..: a cart in hour 3, a hammer in 5, one in 0.
    due("by seed 1", x.day(1, 1, 0), NONE);
    due("by seed 1", x.day(1, 1, 1), 1);
    x.set(0, 0);
    due("exiled by the cart", x.day(1, 2, 0), NONE);
    due("a third one", x.day(1, 3, 0), 0);
    due("a third one", x.day(1, 3, 1), 0);
    x.set(1, 20);
    due("not exiled by the cart", x.day(1, 2, 0), 5);
    Checks.type(x, 0, "..");
    x.set(1, 7);
    due("from cell 2 not so loud", x.day(1, 1, 1), 0);
    x.set(1, 6);
    due("from cell 2", x.day(1, 1, 1), 1);
    x = town("b", "00n0", 0, 0);
    for (int seed = -20; seed < 20; seed++) {
      due("by seed " + seed, x.day(seed * 99991, 8, 0), DayLots.wakes(seed * 99991, 8, 1, 0));
    }
    x.wipe(0);
    due("no cells", x.day(1, 8, 0), NONE);
    due("no cells", x.day(1, 8, 1), 0);
    x.thunder(2, 9);
    due("thunder stays", x.day(1, 8, 0), 2);
    due("deeds stay", x.count(1), 1);
    due("n 0", x.day(1, 0, 0), BAD);
    due("n 9", x.day(1, 9, 0), BAD);
    due("what -1", x.day(1, 1, -1), BAD);
    due("what 2", x.day(1, 1, 2), BAD);
  }

  /** In a town of the bed alone, with charter 0: who did something is exiled, and nothing is done any more. */
  private static final class DayLots {
    static int wakes(int seed, int n, int cells, int depth) {
      int[] noise = new int[10];
      long lot = seed;
      for (int i = 0; i < n; i++) {
        long[] of = {cells, 4, 10};
        for (int k = 0; k < 3; k++) {
          lot = (int) (lot * 1103515245L + 12345L);
          of[k] = (lot & 0xffffffffL) / 65536 % of[k];
        }
        noise[(int) of[2]] += new int[] {3, 6, 9, 14}[(int) of[1]];
      }
      for (int h = 0; h < 10; h++) {
        if (noise[h] > 0) {
          return noise[h] > Math.min(30, depth + 3 * h) ? h : NONE;
        }
      }
      return NONE;
    }
  }

  private static void fraction(FounderSleeps x, int c, long above, long below) {
    due("above of " + c, x.sleeps(c, 0), above);
    due("below of " + c, x.sleeps(c, 1), below);
  }

  private static void sheetsMadeAndLost() {
    promise = 32;
    FounderSleeps x = new FounderSleeps();
    due("sheet -1", x.sheet(-1, 0, 1), BAD);
    due("sheet 4", x.sheet(4, 0, 1), BAD);
    due("form -1", x.sheet(0, -1, 1), BAD);
    due("form 3", x.sheet(0, 3, 1), BAD);
    due("61 items", x.sheet(0, 0, 61), BAD);
    due("a wrong form and below 0", x.sheet(0, 3, -1), BAD);
    due("no finding", x.count(8), 0);
    due("below 0", x.sheet(0, 0, -1), SIZE);
    due("finding", x.count(8), 5);
    due("it is lost still", x.lose(0), NULL);
    due("60 items", x.sheet(3, 2, 60), 60);
    due("the last one", x.put(3, 2, 59, 7), 1);
    due("no items", x.sheet(0, 0, 0), 0);
    due("anew", x.sheet(3, 2, 60), 60);
    due("0 at first", x.get(3, 2, 59), 0);
    due("another form", x.sheet(3, 1, 2), 2);
    due("another form", x.get(3, 1, 1), 0);
    due("refused, it stays", x.sheet(3, 1, -7), SIZE);
    due("refused, it stays", x.get(3, 1, 1), 0);

    promise = 33;
    due("lose", x.lose(3), 2);
    due("lose again", x.lose(3), NULL);
    due("lose an empty one", x.lose(0), 0);
    due("lose -1", x.lose(-1), BAD);
    due("lose 4", x.lose(4), BAD);
    due("it has nothing", x.get(3, 1, 0), LEAST);
  }

  private static void items() {
    promise = 34;
    FounderSleeps x = new FounderSleeps();
    x.sheet(0, 0, 3);
    x.sheet(1, 1, 3);
    x.sheet(2, 2, 3);
    due("a byte", x.put(0, 0, 0, 127), 1);
    due("a byte cut", x.put(0, 0, 1, 128), 1);
    due("a byte cut", x.put(0, 0, 2, -257), 1);
    row("bytes", items(x, 0, 0, 3), 127, -128, -1);
    x.put(1, 1, 0, 32768);
    x.put(1, 1, 1, 65537);
    x.put(1, 1, 2, -2);
    row("shorts", items(x, 1, 1, 3), -32768, 1, -2);
    x.put(2, 2, 0, Integer.MAX_VALUE);
    x.put(2, 2, 1, Integer.MIN_VALUE);
    row("ints", items(x, 2, 2, 3), Integer.MAX_VALUE, Integer.MIN_VALUE, 0);
    due("sheet -1", x.put(-1, 0, 0, 1), BAD);
    due("sheet 4", x.put(4, 0, 0, 1), BAD);
    due("form -1", x.put(0, -1, 0, 1), BAD);
    due("form 3", x.put(0, 3, 0, 1), BAD);
    due("a wrong form of a lost one", x.put(3, 3, 0, 1), BAD);
    due("no finding", x.count(8), 0);
    due("a lost one", x.put(3, 1, 9, 1), NULL);
    due("finding", x.count(8), 1);
    due("another form, no such item", x.put(0, 1, 3, 1), CAST);
    due("finding", x.count(8), 3);
    due("no such item", x.put(0, 0, 3, 1), INDEX);
    due("finding", x.count(8), 2);
    due("item -1", x.put(0, 0, -1, 1), INDEX);
    row("bytes as they were", items(x, 0, 0, 3), 127, -128, -1);

    promise = 35;
    x = new FounderSleeps();
    x.sheet(0, 1, 2);
    due("sheet -1", x.get(-1, 0, 0), LEAST);
    due("sheet 4", x.get(4, 0, 0), LEAST);
    due("form 3", x.get(0, 3, 0), LEAST);
    due("form -1", x.get(0, -1, 0), LEAST);
    due("no finding", x.count(8), 0);
    due("a lost one", x.get(1, 1, 0), LEAST);
    due("finding", x.count(8), 1);
    due("another form", x.get(0, 2, 0), LEAST);
    due("finding", x.count(8), 3);
    due("no such item", x.get(0, 1, 2), LEAST);
    due("finding", x.count(8), 2);
    due("item -1", x.get(0, 1, -1), LEAST);
    due("well", x.get(0, 1, 1), 0);
    due("the finding stays the latest", x.count(8), 2);
  }

  private static void copies() {
    promise = 36;
    FounderSleeps x = new FounderSleeps();
    fill(x, 0, 0, 1, 2, 3, 4, 5);
    fill(x, 1, 0, 9, 9, 9);
    fill(x, 2, 1, 7, 7, 7);
    due("to another", x.copy(0, 3, 1, 1, 2), 1);
    row("there", items(x, 1, 0, 3), 9, 4, 5);
    due("to the same, up", x.copy(0, 0, 0, 1, 4), 1);
    row("as they were", items(x, 0, 0, 5), 1, 1, 2, 3, 4);
    due("to the same, down", x.copy(0, 1, 0, 0, 4), 1);
    row("as they were", items(x, 0, 0, 5), 1, 2, 3, 4, 4);
    due("none, at the end", x.copy(0, 5, 1, 3, 0), 1);
    due("none, behind the end", x.copy(0, 6, 1, 3, 0), INDEX);
    due("finding", x.count(8), 2);
    due("s -1", x.copy(-1, 0, 1, 0, 1), BAD);
    due("s 4", x.copy(4, 0, 1, 0, 1), BAD);
    due("t -1", x.copy(0, 0, -1, 0, 1), BAD);
    due("t 4", x.copy(3, 0, 4, 0, 1), BAD);
    due("s lost", x.copy(3, -1, 2, 0, 1), NULL);
    due("t lost", x.copy(0, -1, 3, 0, 1), NULL);
    due("unlike forms", x.copy(0, -1, 2, 0, 1), STORE);
    due("finding", x.count(8), 4);
    due("i -1", x.copy(0, -1, 1, 0, 1), INDEX);
    due("j -1", x.copy(0, 0, 1, -1, 1), INDEX);
    due("n -1", x.copy(0, 0, 1, 0, -1), INDEX);
    due("not so many in s", x.copy(1, 1, 0, 0, 3), INDEX);
    due("not so many in t", x.copy(0, 0, 1, 1, 3), INDEX);
    due("far too many", x.copy(0, 1, 1, 1, Integer.MAX_VALUE), INDEX);
    due("far behind", x.copy(0, Integer.MAX_VALUE, 1, 0, 1), INDEX);
    due("least n", x.copy(0, 1, 1, 1, Integer.MIN_VALUE), INDEX);
    row("as before", items(x, 1, 0, 3), 9, 4, 5);
    row("as before", items(x, 0, 0, 5), 1, 2, 3, 4, 4);

    promise = 37;
    x = town("b", "00n0;00n0;00n0;00n0;00n0;00n0;00n0;00n0", 12, 4);
    for (int i = 0; i < 6; i++) {
      x.thunder(0, 9);
    }
    due("sheet -1", x.write(-1), BAD);
    due("sheet 4", x.write(4), BAD);
    due("a lost one", x.write(0), NULL);
    due("finding", x.count(8), 1);
    fill(x, 0, 0, 5, 5, 5);
    due("three bytes", x.write(0), 3);
    row("lowest bits", items(x, 0, 0, 3), 166 - 256, -1, -1);
    x.sheet(1, 1, 12);
    x.put(1, 1, 10, 77);
    due("ten at most", x.write(1), 10);
    row("shorts", items(x, 1, 1, 12), 166, -1, -1, -1, -1, -1, -1, -1, -1, -1, 77, 0);
    x.sheet(2, 2, 0);
    due("none", x.write(2), 0);
  }

  private static void counts() {
    promise = 38;
    FounderSleeps x = town("b..;...", "00c0;00w1;01w2;02n4;39n3", 30, 4);
    x.thunder(8, 2);
    x.listened(1, 1);
    x.listened(1, 2);
    x.sheet(0, 0, -1);
    int[] counts = new int[9];
    for (int i = 0; i < 9; i++) {
      counts[i] = x.count(i);
    }
    row("counts", counts, 6, 5, 7, 24, 1, 4, 2, 2, 5);
    due("what -1", x.count(-1), BAD);
    due("what 9", x.count(9), BAD);
    x.type(0, ';');
    due("cells where there is a fault", x.count(0), 0);
    due("bytes where there is a fault", x.count(2), 8);
    due("exiled where nothing is heard", x.count(6), 0);
    due("done where nothing is heard", x.count(5), 5);
  }

  private static long mixed(long... all) {
    long h = 17;
    for (long v : all) {
      h = 31 * h + v;
    }
    return h;
  }

  private static void digests() {
    promise = 39;
    due("of a new one", new FounderSleeps().digest(), mixed(0, 0, 0, 0, 0, 0, 0, 0, -1, -1, -1,
        0, 12, 0, 15, 0, 18, 0, 21, 0, 24, 0, 27, 0, 30, 0, 30, 0, 30, 0, 30,
        -1, 0, 0, -1, 0, -1, -1, -1, 0, 1, 1, -1, 0));
    FounderSleeps x = town("b.", "01k1", 12, 4);
    x.listened(1, 8);
    x.sheet(0, 0, -1);
    long day = x.day(7, 8, 0);
    long exiled = x.day(7, 8, 1);
    due("of a small one", x.digest(), mixed(2, 1, 2, 4, 0, 1, 1, 1, -1, -1,
        3, 20, -1, 0, 19, -1, 0,
        1, 2, 1, 8, 0, 0, -1, 1, 1, 4, 0,
        0, 12, 8, 15, 0, 11, 0, 14, 0, 17, 0, 20, 0, 23, 0, 26, 0, 29, 0, 30,
        -1, 2, 0, 0, 0, -1, 1, -1, 0, 1, 1, day, exiled));
    due("it changes nothing", x.digest(), x.digest());
    due("nor the finding", x.count(8), 5);
    String wide = "......;..h...;h.fb.h;...h..;.f...f;h.....";
    String busy = "00n0;07k1;15w1;20c2;14n4;07c3;35k6;22k8";
    x = town(wide, busy, 0, 5);
    digest("he wakes", x);
    x = town(wide, busy, 21, 5);
    digest("he sleeps long", x);
    x.thunder(4, 9);
    digest("it thunders", x);
    x.listened(0, x.noise(0));
    digest("somebody listened", x);
    x.type(1, ';');
    x.undo(0);
    digest("a row is short", x);
    digest("deeds are at fault", town("...b", "00k0;", 3, 4));
    digest("felt helps", town("...b", "00k0", 3, 4));
  }

  /** As the document tells it, of what the calls themselves answer. */
  private static void digest(String what, FounderSleeps x) {
    long h = 17;
    for (int i = 0; i <= 7; i++) {
      h = 31 * h + x.count(i);
    }
    h = 31 * (31 * h + x.fault(0)) + x.fault(1);
    for (int i = 0; i < x.count(0); i++) {
      h = 31 * (31 * (31 * h + x.cell(i)) + x.carry(20, 0, i)) + x.way(0, i);
    }
    h = 31 * h + x.bed();
    for (int i = 0; i < x.count(1); i++) {
      long[] of = {x.deed(i, 0), x.deed(i, 1), x.deed(i, 2), x.heard(i, 0), x.heard(i, 1), x.hour(i, 0), x.hour(i, 1),
          x.whence(i, NONE), x.whence(i, 0), x.what(i), x.ask(i)};
      for (long v : of) {
        h = 31 * h + v;
      }
    }
    for (int i = 0; i < 10; i++) {
      h = 31 * (31 * h + x.noise(i)) + x.depth(i);
    }
    long[] rest = {x.wakes(), x.exiled(0), x.exiled(1), x.loudest(), x.felt(NONE), x.felt(0), x.lay(0), x.lay(1), x.never(),
        x.sleeps(5, 0), x.sleeps(5, 1), x.day(7, 8, 0), x.day(7, 8, 1)};
    for (long v : rest) {
      h = 31 * h + v;
    }
    due(what, x.digest(), h);
  }
}
