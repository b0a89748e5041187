import java.lang.reflect.Method;
import java.util.ArrayList;
import java.util.Arrays;
import java.util.List;

/** Every call with every number just outside and far outside of what is told: what it answers, and that nothing changes. */
final class RefusalEdges extends Edges {
  private static final int ANY = 0;
  private static final int[] FAR = {Integer.MIN_VALUE, Integer.MAX_VALUE};

  /** A number of a call: from, to, and the refusals below and above (ANY: each int may be). */
  private record Span(int from, int to, int below, int above) {
    int refusal(int v) {
      return v < from ? below : v > to ? above : 0;
    }
  }

  private record Act(String name, int[] well, Span[] spans) {}

  RefusalEdges(Doc doc, Checks checks) {
    super(doc, checks);
  }

  @Override
  void tell() {
    in("Refusals");
    says("Refusals, the first that fits, in the order told at each act:");
    order();
    says("BAD -2 (a number not as told, no such thing), NULL, NOT -3 (as told), FULL -4, other FINDINGS.");
    kinds();
    says("They change nothing (FINDINGS but count() 8).");
    for (Act act : acts()) {
      numbers(act);
    }
    notAndFull();
    says("Where the answer is a long, a refusal -x is the least long and x more.");
    due("sleeps", new FounderSleeps().sleeps(17, 0), Long.MIN_VALUE + 2);
    due("sleeps", busy().sleeps(0, 2), Long.MIN_VALUE + 2);
    endQuote();
  }

  private void order() {
    FounderSleeps x = busy();
    x.sheet(3, 0, 1);
    x.lose(3);
    row("BAD ahead of NULL", new int[] {x.put(3, 3, 0, 0), x.copy(3, 0, 4, 0, 0), x.copy(-1, 0, 3, 0, 0)}, BAD, BAD, BAD);
    row("NULL ahead of CAST and INDEX", new int[] {x.put(3, 1, 99, 0), x.put(3, 0, -1, 0)}, NULL, NULL);
    row("NULL ahead of STORE and INDEX", new int[] {x.copy(3, -1, 0, -1, -1), x.copy(1, -1, 3, -1, -1)}, NULL, NULL);
    row("CAST ahead of INDEX", new int[] {x.put(0, 1, 99, 0), x.put(0, 2, -1, 0)}, CAST, CAST);
    row("STORE ahead of INDEX", new int[] {x.copy(0, 99, 1, 0, 1), x.copy(1, 0, 2, -1, 1)}, STORE, STORE);
    row("BAD ahead of SIZE", new int[] {x.sheet(4, 0, -1), x.sheet(0, 3, -1)}, BAD, BAD);
    row("BAD ahead of INDEX", new int[] {x.put(4, 0, -1, 0), x.put(0, -1, -1, 0), x.copy(4, -1, 0, -1, -1)}, BAD, BAD, BAD);
    full(x);
    row("BAD ahead of FULL", new int[] {x.type(0, 256), x.type(1, -1), x.thunder(0, 0), x.thunder(10, 1), x.listened(10, 0),
        x.listened(0, 100)}, BAD, BAD, BAD, BAD, BAD, BAD);
    x = new FounderSleeps();
    row("BAD ahead of NOT", new int[] {x.undo(2), x.undo(-1)}, BAD, BAD);
  }

  private void kinds() {
    FounderSleeps x = busy();
    row("constants", new int[] {FounderSleeps.NONE, FounderSleeps.BAD, FounderSleeps.NOT, FounderSleeps.FULL}, -1, -2, -3, -4);
    row("no such thing", new int[] {x.type(2, 0), x.deed(7, 0), x.carry(0, 30, 0), x.lose(4)}, -2, -2, -2, -2);
    row("NULL", new int[] {x.read(3), x.lose(3), x.put(3, 0, 0, 0), x.copy(3, 0, 0, 0, 0), x.write(3)}, -11, -11, -11, -11, -11);
    full(x);
    row("FULL", new int[] {x.type(0, '.'), x.type(1, '.'), x.thunder(0, 1), x.listened(0, 0)}, -4, -4, -4, -4);
    x = new FounderSleeps();
    row("NOT", new int[] {x.undo(0), x.undo(1), x.back()}, -3, -3, -3);
  }

  /** Something of everything, and room for more of all; sheet 3 is lost, and the latest finding is SIZE. */
  private static FounderSleeps busy() {
    FounderSleeps x = town("......;..h...;h.fb.h;...h..;.f...f", "00n0;07k1;15w1;20c2;14n4;07c3;22k8", 21, 5);
    withThunders(x, 4, 9, 0, 1, 9, 9);
    x.listened(0, x.noise(0));
    x.listened(9, x.noise(9));
    fill(x, 0, 0, 1, 3, -2, 4, 5);
    fill(x, 1, 1, 6, 700, -8, 9);
    fill(x, 2, 2, 1, 1, 70000);
    x.sheet(3, 0, -1);
    return x;
  }

  private static void full(FounderSleeps x) {
    for (int i = 0; i < 10; i++) {
      x.type(0, '.');
      x.type(1, '.');
      x.thunder(9, 1);
      x.listened(0, 0);
    }
  }

  private static Act act(String name, int[] well, int... edges) {
    Span[] spans = new Span[well.length];
    for (int i = 0; i < spans.length; i++) {
      spans[i] = new Span(edges[2 * i], edges[2 * i + 1], BAD, BAD);
    }
    return new Act(name, well, spans);
  }

  private static int[] of(int... numbers) {
    return numbers;
  }

  private static List<Act> acts() {
    Span any = new Span(Integer.MIN_VALUE, Integer.MAX_VALUE, ANY, ANY);
    Span sheet = new Span(0, 3, BAD, BAD);
    Span form = new Span(0, 2, BAD, BAD);
    Span item = new Span(0, 4, INDEX, INDEX);
    Span many = new Span(0, 3, INDEX, INDEX);
    List<Act> all = new ArrayList<>(List.of(
        act("type", of(0, 46), 0, 1, 0, 255), act("wipe", of(0), 0, 1), act("undo", of(0), 0, 1), act("fault", of(0), 0, 1),
        act("cell", of(0), 0, 35), act("deed", of(0, 0), 0, 6, 0, 2), act("set", of(0, 1), 0, 1, 0, 30)));
    all.addAll(List.of(
        act("set", of(1, 1), 0, 1, 0, 20), act("thunder", of(1, 1), 0, 9, 1, 9), act("read", of(0), 0, 3),
        act("carry", of(9, 1, 1), 0, 99, 0, 29, 0, 29), act("heard", of(0, 0), 0, 6, 0, 1), act("noise", of(0), 0, 9),
        act("depth", of(0), 0, 9), act("exiled", of(0), 0, 1), act("hour", of(0, 0), 0, 6, 0, 1)));
    all.addAll(List.of(
        act("felt", of(0), -1, 1), act("lay", of(0), 0, 1), act("way", of(0, 0), 0, 29, 0, 29),
        act("listened", of(0, 0), 0, 9, 0, 99), act("whence", of(0, 0), 0, 6, -1, 35), act("what", of(0), 0, 6),
        act("ask", of(0), 0, 6), act("sleeps", of(1, 0), 0, 16, 0, 1), act("lose", of(0), 0, 3), act("write", of(0), 0, 3)));
    all.addAll(List.of(
        act("count", of(0), 0, 8),
        new Act("day", of(1, 1, 0), new Span[] {any, new Span(1, 8, BAD, BAD), new Span(0, 1, BAD, BAD)}),
        new Act("sheet", of(0, 0, 1), new Span[] {sheet, form, new Span(0, 60, SIZE, BAD)}),
        new Act("put", of(0, 0, 0, 7), new Span[] {sheet, form, item, any}),
        new Act("get", of(0, 0, 0), new Span[] {sheet, form, item}),
        new Act("copy", of(0, 1, 0, 2, 1), new Span[] {sheet, item, sheet, item, many})));
    return all;
  }

  /** One number outside, or two at once; and that the edges themselves are inside. */
  private void numbers(Act act) {
    for (int i = 0; i < act.well.length; i++) {
      for (int v : outside(act.spans[i])) {
        int[] numbers = act.well.clone();
        numbers[i] = v;
        refused(act, numbers);
        for (int j = i + 1; j < act.well.length; j++) {
          for (int w : outside(act.spans[j])) {
            int[] two = numbers.clone();
            two[j] = w;
            refused(act, two);
          }
        }
      }
      accepted(act, i, act.spans[i].from);
      accepted(act, i, act.spans[i].to);
    }
  }

  private static List<Integer> outside(Span span) {
    List<Integer> all = new ArrayList<>();
    if (span.below != ANY) {
      all.addAll(List.of(span.from - 1, span.to + 1, FAR[0], FAR[1]));
    }
    return all;
  }

  private void refused(Act act, int[] numbers) {
    int refusal = refusalOf(act, numbers);
    FounderSleeps x = busy();
    String what = act.name + Arrays.toString(numbers);
    due(what, call(x, act.name, numbers), answerOf(act.name, refusal));
    due(what + ": the finding", x.count(8), refusal == BAD ? 5 : -10 - refusal);
    due(what + " changes nothing else", all(x).equals(all(busy())) ? 1 : 0, 1);
  }

  /** BAD is told ahead of all others, whichever number it is for. */
  private static int refusalOf(Act act, int[] numbers) {
    int refusal = 0;
    for (int i = 0; i < numbers.length && refusal != BAD; i++) {
      int next = act.spans[i].refusal(numbers[i]);
      if (next != 0) {
        refusal = next;
      }
    }
    return refusal;
  }

  private static long answerOf(String name, int refusal) {
    switch (name) {
      case "get":
        return LEAST;
      case "sleeps":
        return Long.MIN_VALUE - refusal;
      default:
        return refusal;
    }
  }

  private void accepted(Act act, int i, int v) {
    int[] numbers = act.well.clone();
    numbers[i] = v;
    long got = call(busy(), act.name, numbers);
    boolean refused = got == BAD || got == Long.MIN_VALUE + 2 || got == INDEX || got == SIZE;
    due(act.name + Arrays.toString(numbers) + " is not refused: " + got, refused ? 1 : 0, 0);
  }

  private static long call(FounderSleeps x, String name, int[] numbers) {
    try {
      Class<?>[] types = new Class<?>[numbers.length];
      Arrays.fill(types, int.class);
      Object[] boxed = Arrays.stream(numbers).boxed().toArray();
      Method method = FounderSleeps.class.getMethod(name, types);
      return ((Number) method.invoke(x, boxed)).longValue();
    } catch (ReflectiveOperationException e) {
      throw new IllegalStateException(name + Arrays.toString(numbers), e);
    }
  }

  /** All that can be asked, but for the latest finding; the object is of no use afterwards. */
  private static List<Long> all(FounderSleeps x) {
    List<Long> all = new ArrayList<>();
    all.add(x.digest());
    for (int i = 0; i < 5; i++) {
      all.add((long) x.get(0, 0, i));
      all.add((long) x.get(1, 1, i));
      all.add((long) x.get(2, 2, i));
    }
    for (int s = 0; s < 4; s++) {
      all.add((long) x.lose(s));
    }
    for (int i = 0; i < 7; i++) {
      all.add((long) x.back());
      all.add((long) Arrays.hashCode(noises(x)));
    }
    for (int i = 0; i < 42; i++) {
      all.add((long) x.undo(0));
      all.add((long) x.fault(0));
      all.add((long) x.undo(1));
      all.add((long) x.fault(1));
    }
    all.addAll(List.of((long) x.set(0, 0), (long) x.set(1, 0), (long) x.forget()));
    return all;
  }

  private void notAndFull() {
    String[] names = {"type", "type", "thunder", "listened"};
    int[][] numbers = {{0, '.'}, {1, '0'}, {0, 1}, {0, 0}};
    for (int i = 0; i < names.length; i++) {
      FounderSleeps x = busy();
      FounderSleeps y = busy();
      full(x);
      full(y);
      due(names[i] + " where it is full", call(x, names[i], numbers[i]), FULL);
      due("it is no finding", x.count(8), 5);
      due("it changes nothing", all(x).equals(all(y)) ? 1 : 0, 1);
    }
    FounderSleeps x = new FounderSleeps();
    x.undo(0);
    x.undo(1);
    x.back();
    due("NOT is no finding", x.count(8), 0);
    due("NOT changes nothing", all(x).equals(all(new FounderSleeps())) ? 1 : 0, 1);
  }
}
