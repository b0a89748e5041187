/** The edges of plans (======== 3), and of what was listened, of chance and of days (======== 4). */
final class PlanEdges extends Edges {
  PlanEdges(Doc doc, Checks checks) {
    super(doc, checks);
  }

  @Override
  void tell() {
    in("Part 3");
    hours();
    felt();
    beds();
    ways();
    in("Part 4");
    listened();
    never();
    whence();
    what();
    ask();
    sleeps();
    days();
    endQuote();
  }

  private void hours() {
    says("HOUR for a DEED: that (0 to 9), in place of its own, by which he WAKES latest (never is latest), of like ones the"
        + " least: which; in which HOUR he WAKES; NONE.");
    hour("the least, where he never wakes", town("b", "00w5"), 0, NONE);
    hour("the least, where he always wakes in hour 0", withThunders(town("b", "00w5", 0, 4), 0, 1), 0, 0);
    hour("the least, where he always wakes in hour 9",
        withThunders(town("...b", "00w5", 0, 4), 9, 9, 9, 9, 9, 9, 9, 9), 0, 9);
    // Ahead of hours 0 to 9 he sleeps as deep as 0 3 6 9 5 8 11 7 10 13: a hammer wakes him in each.
    hour("the last, where it wakes him in its own", withThunders(town("b", "00n0", 0, 4), 3, 9, 6, 9), 9, 9);
    hour("in place of its own", town("b", "00n0"), 1, NONE);
    hour("from the last to the first", town("b", "00n9", 14, 4), 0, NONE);
    // In hour 4 it thunders anyway, so a whisper there takes 2 from him, elsewhere 4; in hour 9 he hears 25.
    hour("never is later than 9", withThunders(town("b", "00w0", 3, 4), 4, 1, 9, 9, 9, 9, 9, 7), 4, NONE);
    hour("behind 9 by thunder", withThunders(town("b", "00w0", 3, 4), 4, 1, 9, 9, 9, 9, 9, 8), 0, 9);
    FounderSleeps x = town("b", "00n0;00c5", 12, 4);
    due("of the second", x.hour(1, 0), 0);
    due("of the second, in which hour", x.hour(1, 1), 0);
    hour("the first is done in hour 1, and the second not", x, 1, NONE);
    due("all stays as told", x.deed(0, 2), 0);
  }

  private void hour(String what, FounderSleeps x, int best, int wakes) {
    due(what + ": which", x.hour(0, 0), best);
    due(what + ": he wakes", x.hour(0, 1), wakes);
  }

  private void felt() {
    says("FELT: the fewest open CELLS (0 to 2) that are to become felt, so that he does not WAKE, of like ones the least row"
        + " (each more than the one ahead): how many; the i-th; NONE.");
    felts("10 are heard by 4 cells", town("....b", "00n0", 10, 4), 0, NONE, NONE);
    felts("8 by one of felt", town("....b", "00n0", 9, 4), 1, 1, NONE);
    felts("8 by one of felt", town("....b", "00n0", 8, 4), 1, 1, NONE);
    felts("6 by two", town("....b", "00n0", 7, 4), 2, 1, 2);
    felts("6 by two", town("....b", "00n0", 6, 4), 2, 1, 2);
    felts("three would do", town("....b", "00n0", 5, 4), NONE, NONE, NONE);
    felts("fewer, though not the least row", town("...b", "00c0;01c0", 3, 4), 1, 2, NONE);
    felts("the least of two that do", town("...b", "00c0;01c0", 5, 4), 1, 1, NONE);
    felts("the least row of two", town("...b", "00c0;01c0", 2, 4), 2, 1, 2);
    felts("not side by side", town("..b..", "00c0;04c0", 5, 4), 2, 1, 3);
    felts("the first and a far one", town("..;bh;..", "01c0;05c0", 5, 4), 2, 0, 4);
    felts("the first cell alone", town("..;bh", "01c0", 3, 4), 1, 0, NONE);
    felts("a house stays", town(".hb", "00n0", 8, 4), NONE, NONE, NONE);
    felts("felt stays", town(".fb", "00n0", 9, 4), NONE, NONE, NONE);
    felts("in the bed nothing helps", town("b.", "00n0", 13, 4), NONE, NONE, NONE);
    felts("nor against thunder", withThunders(town("..b", "00w0", 0, 4), 0, 1), NONE, NONE, NONE);
    felts("no town", town("", ""), 0, NONE, NONE);
    felts("no town, thunder", withThunders(town("", "", 0, 4), 0, 1), NONE, NONE, NONE);
    felts("the last cells", town("hhhhhh;hhhhhh;hhhhhh;hhhhhh;hhhhhh;.h.b..", "35k0", 5, 4), 1, 34, NONE);
    felts("the last two", town("hhhhhh;hhhhhh;hhhhhh;hhhhhh;hhhhhh;.hb...", "35k0", 2, 4), 2, 33, 34);
    FounderSleeps x = town("....b", "00n0", 6, 4);
    felts("two at first", x, 2, 1, 2);
    x.set(0, 8);
    felts("then one", x, 1, 1, NONE);
    x.set(0, 10);
    felts("then none", x, 0, NONE, NONE);
    x.thunder(0, 4);
    felts("by thunder two again", x, 2, 1, 2);
    x.thunder(0, 1);
    felts("by more thunder not even two", x, NONE, NONE, NONE);
    x.wipe(1);
    felts("without the deed none", x, 0, NONE, NONE);
  }

  private void felts(String what, FounderSleeps x, int many, int first, int second) {
    due(what + ": how many", x.felt(NONE), many);
    due(what + ": 0", x.felt(0), first);
    due(what + ": 1", x.felt(1), second);
  }

  private void beds() {
    says("BED: the open CELL in which there had better be THE BED (its own, if there is one, becomes open), by which he WAKES"
        + " latest, of like ones the least: which; in which HOUR he WAKES; NONE.");
    lay("the least, where he never wakes", town("hb..", ""), 2, NONE);
    lay("the least, where he always wakes", withThunders(town("hb..", "", 0, 4), 0, 1), 2, 0);
    lay("the least, where he always wakes in hour 9",
        withThunders(town("b..", "", 0, 4), 9, 9, 9, 9, 9, 9, 9, 9), 1, 9);
    lay("no open cells", town("hbf", "01n0"), NONE, NONE);
    lay("no cells", town("", "00n0"), NONE, NONE);
    lay("no open cells, though thunder wakes him anywhere", withThunders(town("hb", "", 0, 4), 3, 9, 3, 9), NONE, NONE);
    lay("only the first", town(".hhhhh;hhhhhb", ""), 0, NONE);
    lay("only the last", town("bhhhhh;hhhhhh;hhhhhh;hhhhhh;hhhhhh;hhhhh.", "35n0"), 35, 0);
    lay("without a bed", town("h...", "01n0"), 3, NONE);
    lay("without a bed, all alike", town("...", ""), 0, NONE);
    lay("its own lets noise through as an open one", town(".b.", "00n0", 12, 4), 2, NONE);
    lay("its own lets no more through", town(".b.", "00n0", 11, 4), 0, 0);
    lay("latest, if not never", town(".b.", "00n0;02n2", 12, 20), 2, 2);
    lay("the least of two that are latest", town("b....", "04n0;01n1;03w9", 12, 20), 1, 1);
    lay("never is later than 9",
        withThunders(town("b..", "01w0;00n9", 3, 20), 9, 9, 9, 5), 2, NONE);
    FounderSleeps x = town("b..", "00n0");
    x.lay(0);
    due("the bed stays", x.bed(), 0);
    due("he wakes in it", x.wakes(), 0);
  }

  private void lay(String what, FounderSleeps x, int best, int wakes) {
    due(what + ": which", x.lay(0), best);
    due(what + ": he wakes", x.lay(1), wakes);
  }

  private void ways() {
    says("WAY of a cart from a CELL to another one, both open: by open CELLS (n, e, s, w) so that what is HEARD at THE BED of"
        + " a cart on all its CELLS, both ends too, is least together: how much;");
    FounderSleeps x = town("...;.b.;...", "");
    due("to the next", x.way(0, 1), 15);
    due("round one corner", x.way(1, 3), 23);
    due("round the bed", x.way(0, 8), 37);
    due("back", x.way(8, 0), 37);
    due("one end is both", x.way(1, 1), 8);
    due("a longer way is stiller", town("......;.hbhh.;.hhhh.;.hhhh.;.hhhh.;......", "").way(12, 17), 16);
    due("not askew", town(".h;..;.b", "").way(0, 3), 21);
    due("without a bed", town("......", "").way(0, 5), 0);
    due("to the last cell", town("b.....;......;......;......;......;......", "").way(35, 35), 0);
    due("out of hearing but for one end", town("b.....;......;......;......;......;......", "").way(35, 33), 1);

    says("NONE: there is none.");
    due("from a house", town("h..", "").way(0, 1), NONE);
    due("to a house", town("h..", "").way(1, 0), NONE);
    due("from felt", town("f..", "").way(0, 1), NONE);
    due("to the bed", town("b..", "").way(1, 0), NONE);
    due("from the bed to the bed", town("b..", "").way(0, 0), NONE);
    due("by a house", town(".h.", "").way(0, 2), NONE);
    due("by felt", town(".f.", "").way(0, 2), NONE);
    due("by the bed", town(".b.", "").way(0, 2), NONE);
    due("askew", town(".h;h.", "").way(0, 3), NONE);
    due("round the end of a row", town("h.;.h", "").way(1, 2), NONE);
  }

  private void listened() {
    says("LISTENED, 8 at most: in an HOUR (0 to 9) NOISE was so much (0 to 99; where he woke ahead: never).");
    FounderSleeps x = town("b", "00w3;00w9", 30, 20);
    row("numbers that are not", new int[] {x.listened(-1, 0), x.listened(10, 0), x.listened(0, -1), x.listened(0, 100)},
        BAD, BAD, BAD, BAD);
    due("hour 0", x.listened(0, 0), 1);
    due("hour 9", x.listened(9, 3), 2);
    due("the first one alone", x.never(), 1);
    due("99", x.listened(5, 99), 3);
    due("never so much", x.never(), 0);
    x.forget();
    for (int i = 1; i <= 8; i++) {
      due("listened " + i, x.listened(8, 0), i);
    }
    due("a ninth", x.listened(3, 1), FULL);
    due("it is not kept", x.never(), 3);
    x = town("b", "00w0;00n2;00w5", 12, 20);
    x.listened(5, 0);
    due("where he woke ahead not even 0", x.what(0), 0);
    x.forget();
    x.listened(2, 14);
    due("in the hour in which he wakes, but by a hammer he woke ahead", x.what(0), 7);
    x = town("b", "00n0;00n0;00n0;00n0;00n0;00n0;00n0;00c0");
    x.listened(0, 98);
    due("98", x.never(), 128);
  }

  private void never() {
    says("NEVER: DEEDS each of which, had it alone not been, makes all that was LISTENED come out so, as bits.");
    FounderSleeps x = town("b", "00w0;00w1;00w2;00w3;00w4;00w5;00w6;00w7", 30, 20);
    due("nothing was listened", x.never(), 255);
    x.listened(7, 0);
    due("the last of eight", x.never(), 128);
    x.listened(0, 3);
    due("and all else as it was", x.never(), 128);
    x.listened(1, 0);
    due("two had to be missing", x.never(), 0);
    x = town("b", "00w1;00w1", 30, 20);
    x.listened(1, 3);
    due("either", x.never(), 3);
    x.listened(1, 6);
    due("two that cannot be together", x.never(), 0);
    x = town("b.", "00c0;00w1;01w1", 30, 4);
    x.listened(1, 5);
    due("had the cough not been, nobody was exiled", x.never(), 1);
    due("no deeds", town("b", "").never(), 0);
    due("each that is not heard", town("", "00w0;39n9").never(), 3);
  }

  private void whence() {
    says("WHENCE of a DEED: CELLS (that there are), in place of its own, likewise: how many; the i-th; NONE.");
    FounderSleeps x = town(grid(5, 6, 'h') + ";fb....", "39w0;00w1");
    due("all cells, of whatever kind", x.whence(0, NONE), 36);
    for (int i = 0; i < 36; i++) {
      due("the " + i + "-th", x.whence(0, i), i);
    }
    x.listened(0, 3);
    whences("in the bed itself", x, 0, 31);
    x.forget();
    x.listened(0, 2);
    whences("beside it", x, 0, 25, 30, 32);
    x.listened(1, 3);
    whences("none", x, 0);
    x = town("..b", "00w0;39w0");
    x.listened(0, 4);
    whences("its own is not there", x, 1, 2);
    x.forget();
    x.listened(0, 1);
    whences("nowhere is no cell", x, 1);
    whences("its own may be one", x, 0, 0);
    whences("no cells", town("", "00w0"), 0);
    x = town("b", "00w0");
    whences("one cell", x, 0, 0);
    due("the last i", x.whence(0, 35), NONE);
  }

  private void whences(String what, FounderSleeps x, int deed, int... cells) {
    due(what + ": how many", x.whence(deed, NONE), cells.length);
    for (int i = 0; i < cells.length; i++) {
      due(what + ": " + i, x.whence(deed, i), cells[i]);
    }
    due(what + ": no more", x.whence(deed, cells.length), NONE);
  }

  private void what() {
    says("WHAT of a DEED: 0 w, 1 c, 2 k, 3 n, in place of its own, likewise, as bits.");
    int[] loud = {3, 6, 9, 14};
    for (int i = 0; i < 4; i++) {
      FounderSleeps x = town("b", "00w0;00c9", 30, 20);
      due("all", x.what(0), 15);
      x.listened(0, loud[i]);
      due("what " + i, x.what(0), 1 << i);
      due("the other stays what it is", x.what(1), i == 0 ? 15 : 0);
    }
    FounderSleeps x = town("...b", "00n0;03k0");
    x.listened(0, 9);
    due("only what is not heard", x.what(0), 1);
    x = town("b", "00w0;00w1", 30, 5);
    x.listened(1, 0);
    due("all by which its cell is exiled", x.what(0), 14);
    x.listened(2, 1);
    due("nothing", x.what(0), 0);
  }

  private void ask() {
    says("ASK of a DEED: the HOUR in which the greatest number of its WHENCE by which NOISE (NONE, too) is alike is least,"
        + " of like ones the least.");
    for (int hour = 0; hour <= 9; hour++) {
      due("in its own hour", town("..b", "00c" + hour, 30, 20).ask(0), hour);
    }
    // In hour 5 four of five are alike: by the fifth cell the cart is not done.
    due("the least of all, though a later hour is less than most", town("..b..", "00c0;03k5", 12, 4).ask(0), 0);
    due("no cells: all are alike", town("", "00w7").ask(0), 0);
    due("one cell: all are alike", town("b", "00w7").ask(0), 0);
    due("behind his waking all are alike by NONE", town("..b..", "00n4", 0, 20).ask(0), 4);
    FounderSleeps x = town("..b", "00c4", 30, 20);
    x.listened(4, 99);
    due("no cell is left", x.ask(0), 0);
    // 1, 3 and 5 are alike in hour 1. From 1: 0 2 in hours 3 and 5; from 3: 2 0; from 5: 2 2, and then thunder wakes him.
    x = withThunders(town("h.h;.b.", "01n1;01w3;03w5;03w7", 12, 4), 6, 9, 6, 6);
    x.listened(1, 13);
    whences("three", x, 0, 1, 3, 5);
    due("2, 0 and NONE are three", x.ask(0), 7);
    x.back();
    due("where he sleeps on, hours 3, 5 and 7 are like", x.ask(0), 3);
  }

  private void sleeps() {
    says("SLEEPS: each DEED is by c sixteenths (0 to 16), by itself: the chance that he does not WAKE: a FRACTION.");
    FounderSleeps x = town("b", "00n0;00n0;00n0;00n0;00n0;00n0;00n0;00n0");
    fraction(x, 0, 1, 1);
    fraction(x, 1, 2562890625L, 4294967296L);
    fraction(x, 8, 1, 256);
    fraction(x, 15, 1, 4294967296L);
    fraction(x, 16, 0, 1);
    due("-1 sixteenth", x.sleeps(-1, 0), Long.MIN_VALUE + 2);
    due("17 sixteenths", x.sleeps(17, 0), Long.MIN_VALUE + 2);
    x.set(0, 14);
    fraction(x, 8, 9, 256);
    x.set(0, 30);
    fraction(x, 8, 37, 256);
    fraction(town("b", "00w0;00w1;00w2;00w3;00w4;00w5;00w6;00w7", 30, 20), 7, 1, 1);
    fraction(town("", ""), 16, 1, 1);
    fraction(town("b", ""), 0, 1, 1);
    fraction(withThunders(town("b", "00w5", 0, 4), 0, 1), 0, 0, 1);
    fraction(withThunders(town("", "", 0, 4), 9, 9, 9, 9, 9, 9, 9, 9), 16, 0, 1);
    fraction(town("b", "00c0;00n1", 9, 4), 4, 13, 16);
  }

  private void fraction(FounderSleeps x, int c, long above, long below) {
    due("above, by " + c, x.sleeps(c, 0), above);
    due("below, by " + c, x.sleeps(c, 1), below);
  }

  private void days() {
    says("DAY by a SEED: n DEEDS (1 to 8), each a LOT of CELLS, a LOT of 4 (what), a LOT of 10 (the HOUR), in place of those"
        + " told");
    FounderSleeps x = town("b", "00n0;00n0;00n0");
    due("0 deeds", x.day(1, 0, 0), BAD);
    due("9 deeds", x.day(1, 9, 0), BAD);
    for (int depth = 0; depth <= 30; depth += 6) {
      for (int n = 1; n <= 8; n++) {
        for (int seed : new int[] {0, 1, -1, 7, Integer.MAX_VALUE, Integer.MIN_VALUE}) {
          day(seed, n, depth);
        }
      }
    }
    due("those told stay", x.count(1), 3);
    due("and are done", x.count(5), 3);

    says("(no LOTS, no DEEDS where there are no CELLS):");
    x = town("", "00n0", 0, 0);
    due("no cells", x.day(1, 8, 0), NONE);
    due("no cells, exiled", x.day(1, 8, 1), 0);
    Checks.type(x, 0, "b;");
    due("a town at fault", x.day(1, 8, 0), NONE);
    x.undo(0);
    due("a town that is well", x.day(1, 8, 0), 0);

    says("in which HOUR he WAKES; NONE; how many CELLS are EXILED in all.");
    x = withThunders(town("", "", 0, 0), 9, 9, 9, 9, 9, 9, 9, 9);
    due("by thunder in hour 9", x.day(1, 8, 0), 9);
    due("nobody", x.day(1, 8, 1), 0);
    // Lots from seed 1: 16838 38526 10113: cell 0 of two, a cart, hour 3; 50283 63819 38395: cell 1, a hammer, hour 5.
    x = town("b.", "", 30, 8);
    due("one", x.day(1, 1, 1), 1);
    due("two", x.day(1, 2, 1), 2);
    due("he sleeps", x.day(1, 2, 0), NONE);
    x.set(1, 9);
    due("by more than the charter", x.day(1, 1, 1), 0);
    x.set(0, 0);
    x.set(1, 8);
    due("he wakes in hour 5", x.day(1, 2, 0), 5);
    due("one ahead of it", x.day(1, 2, 1), 1);
  }

  /** In the bed alone, where nobody is exiled: all that is done in an hour is heard. */
  private void day(int seed, int n, int depth) {
    FounderSleeps x = town("b", "00n0;00n0;00n0", depth, 20);
    int[] noise = new int[10];
    Lots lots = new Lots(seed);
    for (int i = 0; i < n; i++) {
      lots.next(1);
      int loud = new int[] {3, 6, 9, 14}[lots.next(4)];
      noise[lots.next(10)] += loud;
    }
    int wakes = NONE;
    int deep = depth;
    for (int hour = 0; hour < 10 && wakes == NONE; hour++) {
      wakes = noise[hour] > deep ? hour : NONE;
      deep = noise[hour] == 0 ? Math.min(30, deep + 3) : deep - noise[hour] / 2;
    }
    due(n + " by seed " + seed + " in depth " + depth, x.day(seed, n, 0), wakes);
    due("nobody is exiled", x.day(seed, n, 1), 0);
  }
}
