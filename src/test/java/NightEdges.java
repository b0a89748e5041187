/** The edges of noise and of the night: the rest of 'Terms', and ======== 2. */
final class NightEdges extends Edges {
  NightEdges(Doc doc, Checks checks) {
    super(doc, checks);
  }

  @Override
  void tell() {
    in("Terms");
    loudness();
    waysOfNoise();
    heardAtTheBed();
    hourByHour();
    waking();
    depthAfter();
    exile();
    in("Part 2");
    leftAndHeard();
    noiseAndDepth();
    exiledInAll();
    loudest();
    endQuote();
  }

  private void loudness() {
    says("A whisper is 3 LOUD, a cough 6, a cart 9, a hammer 14.");
    row("in the bed itself", heard(town("b", "00w0;00c1;00k2;00n3")), 3, 6, 9, 14);
  }

  private void waysOfNoise() {
    says("Noise goes from CELL to CELL, n, e, s or w,");
    FounderSleeps x = town("...;...;...", "");
    int[] left = new int[9];
    for (int i = 0; i < 9; i++) {
      left[i] = x.carry(20, 4, i);
    }
    row("from the middle", left, 18, 19, 18, 19, 20, 19, 18, 19, 18);
    due("not askew", town("h.;.h", "").carry(20, 1, 2), 15);
    due("not from the end of a row to the next", town("hh.;.hh", "").carry(20, 2, 3), 11);
    due("not from the first row to the last", town(".;h;h;h;h;.", "").carry(20, 0, 5), 3);
    due("not from the first column to the last", town(".hhhh.", "").carry(20, 0, 5), 3);

    says("and is less by 1 for each open CELL, or one with a bed, into which it comes, by 4 for a house, by 3 for felt:");
    String[] into = {"..", ".b", ".h", ".f"};
    int[] less = {1, 1, 4, 3};
    for (int i = 0; i < 4; i++) {
      String back = new StringBuilder(into[i]).reverse().toString();
      due("into " + into[i], town(into[i], "").carry(20, 0, 1), 20 - less[i]);
      due("out of " + into[i], town(into[i], "").carry(20, 1, 0), 19);
      due("into, going west, " + back, town(back, "").carry(20, 1, 0), 20 - less[i]);
      due("through " + into[i] + ".", town(into[i] + ".", "").carry(20, 0, 2), 19 - less[i]);
    }
    due("through the bed, too", town("h.h;.b.;h.h", "").carry(20, 1, 7), 18);
  }

  private void heardAtTheBed() {
    says("HEARD at THE BED is what is left by the way by which most is");
    due("round a house", town(".hb;...", "00n0").heard(0, 0), 10);
    due("through a house", town(".hb;.h.;.h.;...", "00n0").heard(0, 0), 9);
    due("round felt is no better", town(".fb;...", "00n0").heard(0, 0), 10);
    due("through felt", town(".fb;.h.;...", "00n0").heard(0, 0), 10);
    due("by a long way of open cells", town(".hhhh.;.h...h;...h..;hhhhh.;.....b;......", "00n0").heard(0, 0), 3);
    due("through one house of two", town("..hh;h..h;bh..", "00n0").heard(0, 0), 9);

    says("(0 at least;");
    due("just one is left", town("..b", "00w0").heard(0, 0), 1);
    due("just none is left", town("...b", "00w0").heard(0, 0), 0);
    due("less than none", town("....b", "00w0").heard(0, 0), 0);
    due("far less than none", town(grid(5, 6, 'h') + ";hhhhhb", "00w0").heard(0, 0), 0);

    says("also if there is no such CELL, or no BED);");
    row("no such cell", heard(town("b.", "02n0;18n0;35n0;36n0;39n0")), 0, 0, 0, 0, 0);
    row("nor in the widest town", heard(town(grid(5, 6, '.') + ";.....b", "35n0;36n0;37n1;38n2;39n3")), 14, 0, 0, 0, 0);
    row("no bed", heard(town("....", "00n0;03n0")), 0, 0);
    row("no town", heard(town("", "00n0;39w9")), 0, 0);

    says("in THE BED itself all.");
    due("among houses", town("hhh;hbh;hhh", "04n0").heard(0, 0), 14);
    due("in the last cell", town("...b", "03w0").heard(0, 0), 3);
  }

  private void hourByHour() {
    says("HOUR by HOUR: DEEDS of that HOUR are done, but for those from a CELL that was EXILED in an HOUR ahead;");
    FounderSleeps x = town("b.", "00c3;00w3;01w4;00c4;00w9;00w0", 30, 4);
    row("in the same hour all are done", fates(x), 0, 0, 0, 1, 1, 0);
    row("noises", noises(x), 3, 0, 0, 9, 2, 0, 0, 0, 0, 0);
    row("as told, not as they come", fates(town("b", "00w5;00c4", 30, 4)), 1, 0);

    says("NOISE is all that is HEARD of them, and all THUNDERS of that HOUR.");
    x = withThunders(town("b.", "00w0;01w0;00c9", 30, 20), 0, 1, 0, 9, 9, 5, 4, 2);
    row("noises", noises(x), 15, 0, 0, 0, 2, 0, 0, 0, 0, 11);
    due("most of all", withThunders(town("b", EIGHT.replaceAll("[0-9]{2}[wckn][0-9]", "00n0")), 0, 9, 0, 9, 0, 9, 0, 9,
        0, 9, 0, 9).noise(0), 166);
  }

  private void waking() {
    says("If it is above what DEPTH is then, he WAKES, and all ends");
    for (int depth = 0; depth <= 30; depth++) {
      due("a hammer in depth " + depth, town("b", "00n0", depth, 20).wakes(), depth < 14 ? 0 : NONE);
    }
    due("thunder of 1 in depth 0", withThunders(town("", "", 0, 0), 0, 1).wakes(), 0);
    due("no noise in depth 0", town("", "", 0, 0).wakes(), NONE);
    due("what depth is then, not at first", withThunders(town("", "", 9, 0), 0, 9, 1, 6).wakes(), 1);
    due("as much as depth is then", withThunders(town("", "", 9, 0), 0, 9, 1, 5).wakes(), NONE);

    says("(later HOURS are not, and nobody is EXILED any more).");
    FounderSleeps x = town("b.", "00w0;01c1;00n1;00w2;01k9", 9, 2);
    row("noises", noises(x), 3, 5, 0, 0, 0, 0, 0, 0, 0, 0);
    due("the one of hour 0 and the one of hour 1", x.exiled(0), 3);
    x.set(0, 5);
    row("noises", noises(x), 3, 5, NONE, NONE, NONE, NONE, NONE, NONE, NONE, NONE);
    row("fates", fates(x), 0, 0, 1, 2, 2);
    due("not those of the hour in which he wakes", x.exiled(0), 1);
    due("nor is it counted", x.count(6), 1);
    due("those of that hour are done", x.count(5), 2);
  }

  private void depthAfter() {
    says("Else DEPTH is less by half of NOISE (cut),");
    for (int loud = 1; loud <= 9; loud++) {
      due("behind noise of " + loud, withThunders(town("", "", 9, 0), 0, loud).depth(1), 9 - loud / 2);
    }
    due("down to half", withThunders(town("", "", 1, 0), 0, 1).depth(1), 1);
    due("all of it, cut", withThunders(town("", "", 18, 0), 0, 9, 0, 9).depth(1), 9);
    due("cut once, not of each", withThunders(town("", "", 9, 0), 0, 3, 0, 3).depth(1), 6);

    says("or, if there is none, 3 more (30 at most), for the next one.");
    for (int depth = 0; depth <= 30; depth++) {
      due("from " + depth, town("", "", depth, 0).depth(1), Math.min(30, depth + 3));
    }
    due("a deed of which nothing is heard", town("...b", "00w0").depth(1), 15);
    due("a deed that is not done", town("b", "00c0;00n1", 12, 4).depth(2), 12);
    row("for the next one", depths(withThunders(town("", "", 26, 0), 2, 1)), 26, 29, 30, 30, 30, 30, 30, 30, 30, 30);
  }

  private void exile() {
    says("A CELL from which a DEED was done that is HEARD by more than CHARTER, is EXILED from the next HOUR on.");
    for (int charter = 0; charter <= 20; charter++) {
      due("a hammer by charter " + charter, town("b", "00n0", 30, charter).exiled(0), charter < 14 ? 1 : 0);
    }
    due("what is not heard, by charter 0", town("...b", "00w0", 30, 0).exiled(0), 0);
    due("what is hardly heard, by charter 0", town("..b", "00w0", 30, 0).exiled(0), 1);
    due("each is heard by itself", town("b", "00w0;00w0", 30, 3).exiled(0), 0);
    due("thunder is nobody's", withThunders(town("b", "00w0", 30, 3), 0, 9).exiled(0), 0);
    due("a deed that is not done", town("b.", "00c0;00n1", 30, 5).count(6), 1);
    due("no such cell", town("b.", "39n0", 30, 0).count(6), 0);
    FounderSleeps x = town("b", "00c0;00w0;00w1", 30, 5);
    row("from the next hour on", fates(x), 0, 0, 1);
    x = town("b", "00w8;00c9", 30, 5);
    due("by a deed of the last hour", x.exiled(0), 1);
    row("all are done", fates(x), 0, 0);
  }

  private void leftAndHeard() {
    says("What is left of a noise, so LOUD, from a CELL to another one.");
    FounderSleeps x = town(".h.", "");
    row("of 0, 1, 5, 6, 99", new int[] {x.carry(0, 0, 2), x.carry(1, 0, 2), x.carry(5, 0, 2), x.carry(6, 0, 2),
        x.carry(99, 0, 2)}, 0, 0, 0, 1, 94);

    says("Of a DEED: what is HEARD of it at THE BED;");
    x = town("b.", "00c0;00n1;01n2;01w3", 12, 4);
    row("also of those that are not done", heard(x), 6, 14, 13, 2);

    says("what comes of it (0 done, 1 not, as its CELL is EXILED, 2 not, as he woke ahead).");
    row("he wakes in hour 2", fates(x), 0, 1, 0, 2);
    x = town("b.", "00c0;01n1;01w1;00w1;00w2;01w2;00w9", 12, 4);
    due("he wakes in hour 1", x.wakes(), 1);
    row("the hours behind it are not, exiled or not", fates(x), 0, 0, 0, 1, 2, 2, 2);
    row("he wakes in hour 9", fates(withThunders(town("", "00w9;00n0", 0, 4), 9, 9, 9, 9, 9, 9, 9, 9)), 0, 0);
    row("he wakes in hour 0", fates(withThunders(town("", "00w9;00n0;39w1", 0, 4), 0, 1)), 2, 0, 2);
  }

  private void noiseAndDepth() {
    says("NOISE in an HOUR; DEPTH ahead of it (both NONE, if he woke ahead).");
    FounderSleeps x = withThunders(town("", "", 0, 4), 0, 1);
    row("noises, awake in hour 0", noises(x), 1, NONE, NONE, NONE, NONE, NONE, NONE, NONE, NONE, NONE);
    row("depths, awake in hour 0", depths(x), 0, NONE, NONE, NONE, NONE, NONE, NONE, NONE, NONE, NONE);
    x = withThunders(town("", "", 0, 4), 8, 9, 8, 9, 8, 9, 9, 1);
    row("noises, awake in hour 8", noises(x), 0, 0, 0, 0, 0, 0, 0, 0, 27, NONE);
    row("depths, awake in hour 8", depths(x), 0, 3, 6, 9, 12, 15, 18, 21, 24, NONE);
    x = withThunders(town("", "", 0, 4), 9, 9, 9, 9, 9, 9, 9, 1);
    row("noises, awake in hour 9", noises(x), 0, 0, 0, 0, 0, 0, 0, 0, 0, 28);
    row("depths, awake in hour 9", depths(x), 0, 3, 6, 9, 12, 15, 18, 21, 24, 27);

    says("WAKES: the HOUR; NONE.");
    due("in hour 9", x.wakes(), 9);
    x.back();
    due("never", x.wakes(), NONE);
    for (int hour = 0; hour < 10; hour++) {
      due("in hour " + hour, withThunders(town("", "", 0, 4), hour, 9, hour, 9, hour, 9, hour, 1).wakes(), hour);
    }
  }

  private void exiledInAll() {
    says("EXILED in all: CELLS, as two numbers of bits (0 to 17, 18 to 35).");
    int[] beds = {0, 1, 16, 17, 18, 19, 34, 35};
    for (int bed : beds) {
      StringBuilder grid = new StringBuilder(grid(6, 6, '.'));
      grid.setCharAt(bed + bed / 6, 'b');
      FounderSleeps x = town(grid.toString(), "" + bed / 10 + bed % 10 + "c5");
      due("cell " + bed + ", half 0", x.exiled(0), bed < 18 ? 1 << bed : 0);
      due("cell " + bed + ", half 1", x.exiled(1), bed < 18 ? 0 : 1 << bed - 18);
    }
    FounderSleeps x = town("......;......;.....b;......;......;......", "17c0;17c1;16n2;18n5;23n9", 30, 4);
    due("in all, half 0", x.exiled(0), 1 << 16 | 1 << 17);
    due("in all, half 1", x.exiled(1), 1 | 1 << 5);
    due("how many", x.count(6), 4);
    due("nobody", town("b", "00w0").exiled(0), 0);
  }

  private void loudest() {
    says("LOUDEST: the DEED of which most is HEARD of those done, of like ones the first; NONE.");
    due("most is heard, not loud", town("....b", "00k0;04c1", 30, 20).loudest(), 1);
    due("of like ones the first, whatever their hours", town("b", "00w7;00c6;00c2;00c9", 30, 20).loudest(), 1);
    due("the exiled one is not done", town("b.", "00c0;00n1;01c2", 30, 4).loudest(), 0);
    due("one behind his waking is not done", town("b", "00n9;00c0", 3, 4).loudest(), 1);
    due("the last of eight", town("b.", "01w0;01w1;01w2;01w3;01w4;01w5;01w6;00w7", 30, 20).loudest(), 7);
    due("of which nothing is heard", town("", "00w0;00n1").loudest(), 0);
    due("no deeds", town("b", "").loudest(), NONE);
    due("none is done", withThunders(town("b", "00n1;00w9", 0, 4), 0, 1).loudest(), NONE);
  }
}
