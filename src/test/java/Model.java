import java.math.BigInteger;
import java.util.ArrayList;
import java.util.Arrays;
import java.util.HashMap;
import java.util.HashSet;
import java.util.List;
import java.util.Map;
import java.util.PriorityQueue;
import java.util.Set;
import java.util.function.Predicate;
import java.util.regex.Pattern;

/**
 * The document once more, as plainly as can be and by other means than the class: texts are split, not walked;
 * everything is reckoned anew at each call; what is tried is told as a new town or a new list of deeds.
 */
final class Model {
  static final int NONE = -1, BAD = -2, NOT = -3, FULL = -4;
  private static final int[] LOUD = {3, 6, 9, 14};

  record Deed(int cell, int kind, int hour) {}

  record Pair(int hour, int much) {}

  private final StringBuilder[] texts = {new StringBuilder(), new StringBuilder()};
  private final List<Pair> thunders = new ArrayList<>();
  private final List<Pair> ears = new ArrayList<>();
  private int depth = 12;
  private int charter = 4;
  private final long[][] sheets = new long[4][];
  private final int[] forms = new int[4];
  private int finding = 0;

  // ---- what the texts tell

  private static final class Town {
    char[] cells = new char[0];
    int width = 0;

    int bed() {
      return new String(cells).indexOf('b');
    }

    boolean has(int c) {
      return c >= 0 && c < cells.length;
    }

    boolean open(int c) {
      return has(c) && cells[c] == '.';
    }

    List<Integer> beside(int c) {
      List<Integer> all = new ArrayList<>();
      for (int d = 0; d < cells.length; d++) {
        int rows = Math.abs(d / width - c / width);
        int columns = Math.abs(d % width - c % width);
        if (rows + columns == 1) {
          all.add(d);
        }
      }
      return all;
    }

    Town with(int c, char sign) {
      Town t = new Town();
      t.cells = cells.clone();
      t.cells[c] = sign;
      t.width = width;
      return t;
    }

    /** What a noise loses from one cell to another: forwards, by Dijkstra's way. */
    int loss(int from, int to) {
      return cheapest(from, to, d -> true, d -> cells[d] == 'h' ? 4 : cells[d] == 'f' ? 3 : 1);
    }

    int cheapest(int from, int to, Predicate<Integer> may, java.util.function.IntUnaryOperator cost) {
      Set<Integer> settled = new HashSet<>();
      PriorityQueue<int[]> queue = new PriorityQueue<>((a, b) -> a[0] - b[0]);
      queue.add(new int[] {0, from});
      while (!queue.isEmpty()) {
        int[] next = queue.poll();
        if (next[1] == to) {
          return next[0];
        }
        if (settled.add(next[1])) {
          for (int d : beside(next[1])) {
            if (may.test(d)) {
              queue.add(new int[] {next[0] + cost.applyAsInt(d), d});
            }
          }
        }
      }
      return NONE;
    }

    int heard(int loud, int cell) {
      return !has(cell) || bed() < 0 ? 0 : Math.max(0, loud - loss(cell, bed()));
    }
  }

  private static boolean townIsWell(String text) {
    if (text.isEmpty()) {
      return true;
    }
    String[] rows = text.split(";", -1);
    if (rows.length > 6 || text.chars().filter(c -> c == 'b').count() > 1) {
      return false;
    }
    for (String row : rows) {
      if (!Pattern.matches("[.hfb]{1,6}", row) || row.length() != rows[0].length()) {
        return false;
      }
    }
    return true;
  }

  private static boolean deedsAreWell(String text) {
    return text.isEmpty() || Pattern.matches("[0-3][0-9][wckn][0-9](;[0-3][0-9][wckn][0-9]){0,7}", text);
  }

  /** Whether something could come behind that makes it well: by trying all that is needed, the shortest ends. */
  private static boolean townCanGoOn(String text) {
    if (townIsWell(text)) {
      return true;
    }
    StringBuilder longer = new StringBuilder(text);
    for (int i = 0; i < 6; i++) {
      longer.append('.');
      if (townIsWell(longer.toString())) {
        return true;
      }
    }
    return false;
  }

  private static boolean deedsCanGoOn(String text) {
    String sample = "00w0;00w0;00w0;00w0;00w0;00w0;00w0;00w0";
    for (int end = text.length(); end <= sample.length(); end++) {
      if (deedsAreWell(text + sample.substring(text.length(), end))) {
        return true;
      }
    }
    return false;
  }

  int fault(int text) {
    if (text < 0 || text > 1) {
      return BAD;
    }
    String s = texts[text].toString();
    for (int n = 1; n <= s.length(); n++) {
      String start = s.substring(0, n);
      // A ; behind a sixth row goes on as far as the document says: the fault is the byte behind it.
      boolean sixEnded = text == 0 && start.endsWith(";") && townIsWell(start.substring(0, n - 1))
          && start.chars().filter(c -> c == ';').count() == 6 && !start.equals(";");
      if (!sixEnded && !(text == 0 ? townCanGoOn(start) : deedsCanGoOn(start))) {
        return n - 1;
      }
    }
    return (text == 0 ? townIsWell(s) : deedsAreWell(s)) ? NONE : s.length();
  }

  private Town town() {
    Town t = new Town();
    if (fault(0) == NONE && texts[0].length() > 0) {
      t.cells = texts[0].toString().replace(";", "").toCharArray();
      t.width = texts[0].toString().split(";")[0].length();
    }
    return t;
  }

  private List<Deed> deeds() {
    List<Deed> all = new ArrayList<>();
    if (fault(1) == NONE && texts[1].length() > 0) {
      for (String d : texts[1].toString().split(";")) {
        all.add(new Deed(Integer.parseInt(d.substring(0, 2)), "wckn".indexOf(d.charAt(2)), d.charAt(3) - '0'));
      }
    }
    return all;
  }

  // ---- a night

  private static final class Night {
    final int[] noise = new int[10];
    final int[] depth = new int[10];
    final int[] fate;
    final int[] heard;
    int wakes = NONE;
    final Set<Integer> exiled = new HashSet<>();

    Night(int deeds) {
      fate = new int[deeds];
      heard = new int[deeds];
    }
  }

  private final Map<String, Integer> heardBefore = new HashMap<>();

  private int heardIn(Town town, int loud, int cell) {
    String key = new String(town.cells) + town.width + "," + loud + "," + cell;
    return heardBefore.computeIfAbsent(key, k -> town.heard(loud, cell));
  }

  private Night live(Town town, List<Deed> deeds) {
    Night n = new Night(deeds.size());
    int deep = depth;
    for (int h = 0; h < 10; h++) {
      boolean over = n.wakes != NONE;
      Set<Integer> nextExiled = new HashSet<>();
      int sum = 0;
      for (int i = 0; i < deeds.size(); i++) {
        Deed d = deeds.get(i);
        n.heard[i] = heardIn(town, LOUD[d.kind()], d.cell());
        if (d.hour() == h) {
          n.fate[i] = over ? 2 : n.exiled.contains(d.cell()) ? 1 : 0;
          if (n.fate[i] == 0) {
            sum += n.heard[i];
            if (n.heard[i] > charter) {
              nextExiled.add(d.cell());
            }
          }
        }
      }
      for (Pair t : thunders) {
        sum += t.hour() == h ? t.much() : 0;
      }
      n.noise[h] = over ? NONE : sum;
      n.depth[h] = over ? NONE : deep;
      if (!over && sum > deep) {
        n.wakes = h;
      } else if (!over) {
        n.exiled.addAll(nextExiled);
        deep = sum == 0 ? Math.min(30, deep + 3) : deep - sum / 2;
      }
    }
    return n;
  }

  private Night night() {
    return live(town(), deeds());
  }

  private boolean fits(List<Deed> deeds) {
    Night n = live(town(), deeds);
    return ears.stream().allMatch(e -> n.noise[e.hour()] == e.much());
  }

  private static List<Deed> with(List<Deed> deeds, int i, Deed d) {
    List<Deed> changed = new ArrayList<>(deeds);
    changed.set(i, d);
    return changed;
  }

  // ---- the calls

  int type(int text, int b) {
    if (text < 0 || text > 1 || b < 0 || b > 255) {
      return BAD;
    }
    if (texts[text].length() == (text == 0 ? 41 : 39)) {
      return FULL;
    }
    return texts[text].append((char) b).length();
  }

  int wipe(int text) {
    if (text < 0 || text > 1) {
      return BAD;
    }
    int had = texts[text].length();
    texts[text].setLength(0);
    return had;
  }

  int undo(int text) {
    if (text < 0 || text > 1) {
      return BAD;
    }
    if (texts[text].length() == 0) {
      return NOT;
    }
    texts[text].setLength(texts[text].length() - 1);
    return texts[text].length();
  }

  int cell(int c) {
    if (c < 0 || c > 35) {
      return BAD;
    }
    Town t = town();
    return t.has(c) ? ".hfb".indexOf(t.cells[c]) : NONE;
  }

  int bed() {
    return town().bed();
  }

  int deed(int i, int what) {
    List<Deed> all = deeds();
    if (i < 0 || i >= all.size() || what < 0 || what > 2) {
      return BAD;
    }
    Deed d = all.get(i);
    return new int[] {d.cell(), d.kind(), d.hour()}[what];
  }

  int set(int what, int v) {
    if (what == 0 && v >= 0 && v <= 30) {
      int was = depth;
      depth = v;
      return was;
    }
    if (what == 1 && v >= 0 && v <= 20) {
      int was = charter;
      charter = v;
      return was;
    }
    return BAD;
  }

  int thunder(int hour, int loud) {
    if (hour < 0 || hour > 9 || loud < 1 || loud > 9) {
      return BAD;
    }
    if (thunders.size() == 6) {
      return FULL;
    }
    thunders.add(new Pair(hour, loud));
    return thunders.size();
  }

  int back() {
    if (thunders.isEmpty()) {
      return NOT;
    }
    thunders.remove(thunders.size() - 1);
    return thunders.size();
  }

  int read(int s) {
    if (s < 0 || s > 3) {
      return BAD;
    }
    if (sheets[s] == null) {
      return found(1);
    }
    int came = 0;
    while (came < sheets[s].length / 2 && thunder((int) sheets[s][2 * came], (int) sheets[s][2 * came + 1]) > 0) {
      came++;
    }
    return came;
  }

  int carry(int loud, int from, int to) {
    Town t = town();
    if (loud < 0 || loud > 99 || !t.has(from) || !t.has(to)) {
      return BAD;
    }
    return Math.max(0, loud - t.loss(from, to));
  }

  int heard(int i, int what) {
    Night n = night();
    if (i < 0 || i >= n.fate.length || what < 0 || what > 1) {
      return BAD;
    }
    return what == 0 ? n.heard[i] : n.fate[i];
  }

  int noise(int h) {
    return h < 0 || h > 9 ? BAD : night().noise[h];
  }

  int depth(int h) {
    return h < 0 || h > 9 ? BAD : night().depth[h];
  }

  int wakes() {
    return night().wakes;
  }

  int exiled(int half) {
    if (half < 0 || half > 1) {
      return BAD;
    }
    return night().exiled.stream().filter(c -> c / 18 == half).mapToInt(c -> 1 << c % 18).sum();
  }

  int loudest() {
    Night n = night();
    for (int loud = 14; loud >= 0; loud--) {
      for (int i = 0; i < n.fate.length; i++) {
        if (n.fate[i] == 0 && n.heard[i] == loud) {
          return i;
        }
      }
    }
    return NONE;
  }

  /** The first place of the latest one, where NONE is later than all. */
  private static int latest(List<Integer> wakes) {
    int never = wakes.indexOf(NONE);
    return never >= 0 ? never : wakes.indexOf(wakes.stream().max(Integer::compare).orElse(NONE));
  }

  int hour(int i, int what) {
    List<Deed> all = deeds();
    if (i < 0 || i >= all.size() || what < 0 || what > 1) {
      return BAD;
    }
    List<Integer> wakes = new ArrayList<>();
    for (int h = 0; h < 10; h++) {
      wakes.add(live(town(), with(all, i, new Deed(all.get(i).cell(), all.get(i).kind(), h))).wakes);
    }
    int best = latest(wakes);
    return what == 0 ? best : wakes.get(best);
  }

  int felt(int i) {
    if (i < -1 || i > 1) {
      return BAD;
    }
    int[] row = feltRow();
    if (i == NONE) {
      return row == null ? NONE : row.length;
    }
    return row == null || i >= row.length ? NONE : row[i];
  }

  private int[] feltRow() {
    Town t = town();
    if (wakes() == NONE) {
      return new int[0];
    }
    for (int a = 0; a < t.cells.length; a++) {
      if (t.open(a) && live(t.with(a, 'f'), deeds()).wakes == NONE) {
        return new int[] {a};
      }
    }
    for (int a = 0; a < t.cells.length; a++) {
      for (int b = a + 1; b < t.cells.length; b++) {
        if (t.open(a) && t.open(b) && live(t.with(a, 'f').with(b, 'f'), deeds()).wakes == NONE) {
          return new int[] {a, b};
        }
      }
    }
    return null;
  }

  int lay(int what) {
    if (what < 0 || what > 1) {
      return BAD;
    }
    Town t = town();
    List<Integer> cells = new ArrayList<>();
    List<Integer> wakes = new ArrayList<>();
    for (int c = 0; c < t.cells.length; c++) {
      if (t.open(c)) {
        Town moved = (t.bed() < 0 ? t : t.with(t.bed(), '.')).with(c, 'b');
        cells.add(c);
        wakes.add(live(moved, deeds()).wakes);
      }
    }
    if (cells.isEmpty()) {
      return NONE;
    }
    int best = latest(wakes);
    return what == 0 ? cells.get(best) : wakes.get(best);
  }

  int way(int from, int to) {
    Town t = town();
    if (!t.has(from) || !t.has(to)) {
      return BAD;
    }
    if (!t.open(from) || !t.open(to)) {
      return NONE;
    }
    int rest = t.cheapest(from, to, t::open, c -> heardIn(t, 9, c));
    return rest == NONE ? NONE : rest + heardIn(t, 9, from);
  }

  int listened(int hour, int much) {
    if (hour < 0 || hour > 9 || much < 0 || much > 99) {
      return BAD;
    }
    if (ears.size() == 8) {
      return FULL;
    }
    ears.add(new Pair(hour, much));
    return ears.size();
  }

  int forget() {
    int had = ears.size();
    ears.clear();
    return had;
  }

  int never() {
    int bits = 0;
    for (int i = 0; i < deeds().size(); i++) {
      List<Deed> less = deeds();
      less.remove(i);
      bits += fits(less) ? 1 << i : 0;
    }
    return bits;
  }

  private List<Integer> places(int i) {
    List<Integer> all = new ArrayList<>();
    Deed d = deeds().get(i);
    for (int c = 0; c < town().cells.length; c++) {
      if (fits(with(deeds(), i, new Deed(c, d.kind(), d.hour())))) {
        all.add(c);
      }
    }
    return all;
  }

  int whence(int deed, int i) {
    if (deed < 0 || deed >= deeds().size() || i < -1 || i > 35) {
      return BAD;
    }
    List<Integer> all = places(deed);
    return i == NONE ? all.size() : i < all.size() ? all.get(i) : NONE;
  }

  int what(int i) {
    if (i < 0 || i >= deeds().size()) {
      return BAD;
    }
    Deed d = deeds().get(i);
    int bits = 0;
    for (int k = 0; k < 4; k++) {
      bits += fits(with(deeds(), i, new Deed(d.cell(), k, d.hour()))) ? 1 << k : 0;
    }
    return bits;
  }

  int ask(int i) {
    if (i < 0 || i >= deeds().size()) {
      return BAD;
    }
    Deed d = deeds().get(i);
    List<int[]> noises = new ArrayList<>();
    for (int c : places(i)) {
      noises.add(live(town(), with(deeds(), i, new Deed(c, d.kind(), d.hour()))).noise);
    }
    int best = NONE;
    int least = 99;
    for (int h = 0; h < 10; h++) {
      Map<Integer, Integer> crowds = new HashMap<>();
      for (int[] noise : noises) {
        crowds.merge(noise[h], 1, Integer::sum);
      }
      int most = crowds.values().stream().max(Integer::compare).orElse(0);
      if (most < least) {
        least = most;
        best = h;
      }
    }
    return best;
  }

  long sleeps(int c, int what) {
    if (c < 0 || c > 16 || what < 0 || what > 1) {
      return Long.MIN_VALUE + 2;
    }
    BigInteger above = chance(deeds(), new ArrayList<>(), c, BigInteger.ONE);
    BigInteger below = BigInteger.valueOf(16).pow(deeds().size());
    BigInteger common = above.gcd(below);
    return (what == 0 ? above : below).divide(common).longValueExact();
  }

  private BigInteger chance(List<Deed> rest, List<Deed> taken, int c, BigInteger weight) {
    if (weight.signum() == 0) {
      return BigInteger.ZERO;
    }
    if (rest.isEmpty()) {
      return live(town(), taken).wakes == NONE ? weight : BigInteger.ZERO;
    }
    List<Deed> more = new ArrayList<>(taken);
    more.add(rest.get(0));
    List<Deed> after = rest.subList(1, rest.size());
    return chance(after, more, c, weight.multiply(BigInteger.valueOf(c)))
        .add(chance(after, taken, c, weight.multiply(BigInteger.valueOf(16 - c))));
  }

  int day(int seed, int n, int what) {
    if (n < 1 || n > 8 || what < 0 || what > 1) {
      return BAD;
    }
    List<Deed> drawn = new ArrayList<>();
    long lot = seed & 0xffffffffL;
    int cells = town().cells.length;
    for (int i = 0; i < n && cells > 0; i++) {
      int[] got = new int[3];
      int[] of = {cells, 4, 10};
      for (int k = 0; k < 3; k++) {
        lot = (1103515245L * lot + 12345L) % 4294967296L;
        got[k] = (int) (lot / 65536 % of[k]);
      }
      drawn.add(new Deed(got[0], got[1], got[2]));
    }
    Night night = live(town(), drawn);
    return what == 0 ? night.wakes : night.exiled.size();
  }

  private int found(int number) {
    finding = number;
    return -10 - number;
  }

  int sheet(int s, int form, int n) {
    if (s < 0 || s > 3 || form < 0 || form > 2 || n > 60) {
      return BAD;
    }
    if (n < 0) {
      return found(5);
    }
    sheets[s] = new long[n];
    forms[s] = form;
    return n;
  }

  int lose(int s) {
    if (s < 0 || s > 3) {
      return BAD;
    }
    if (sheets[s] == null) {
      return found(1);
    }
    int had = sheets[s].length;
    sheets[s] = null;
    return had;
  }

  private static long lowest(int form, int v) {
    int bits = form == 0 ? 8 : form == 1 ? 16 : 32;
    long low = v & ((1L << bits) - 1);
    return low >= 1L << (bits - 1) ? low - (1L << bits) : low;
  }

  private int refused(int s, int form, int i) {
    if (s < 0 || s > 3 || form < 0 || form > 2) {
      return BAD;
    }
    if (sheets[s] == null) {
      return found(1);
    }
    if (forms[s] != form) {
      return found(3);
    }
    return i < 0 || i >= sheets[s].length ? found(2) : 0;
  }

  int put(int s, int form, int i, int v) {
    int refusal = refused(s, form, i);
    if (refusal == 0) {
      sheets[s][i] = lowest(form, v);
    }
    return refusal == 0 ? 1 : refusal;
  }

  int get(int s, int form, int i) {
    return refused(s, form, i) == 0 ? (int) sheets[s][i] : Integer.MIN_VALUE;
  }

  int copy(int s, int i, int t, int j, int n) {
    if (s < 0 || s > 3 || t < 0 || t > 3) {
      return BAD;
    }
    if (sheets[s] == null || sheets[t] == null) {
      return found(1);
    }
    if (forms[s] != forms[t]) {
      return found(4);
    }
    if (i < 0 || j < 0 || n < 0 || (long) i + n > sheets[s].length || (long) j + n > sheets[t].length) {
      return found(2);
    }
    long[] were = Arrays.copyOfRange(sheets[s], i, i + n);
    for (int k = 0; k < n; k++) {
      sheets[t][j + k] = were[k];
    }
    return 1;
  }

  int write(int s) {
    if (s < 0 || s > 3) {
      return BAD;
    }
    if (sheets[s] == null) {
      return found(1);
    }
    int many = 0;
    for (int h = 0; h < 10 && h < sheets[s].length; h++) {
      sheets[s][h] = lowest(forms[s], noise(h));
      many++;
    }
    return many;
  }

  int count(int what) {
    if (what < 0 || what > 8) {
      return BAD;
    }
    int done = (int) Arrays.stream(night().fate).filter(f -> f == 0).count();
    return new int[] {town().cells.length, deeds().size(), texts[0].length(), texts[1].length(), thunders.size(),
        done, night().exiled.size(), ears.size(), finding}[what];
  }

  long digest() {
    List<Long> all = new ArrayList<>();
    for (int i = 0; i <= 7; i++) {
      all.add((long) count(i));
    }
    all.add((long) fault(0));
    all.add((long) fault(1));
    for (int c = 0; c < town().cells.length; c++) {
      all.addAll(List.of((long) cell(c), (long) carry(20, 0, c), (long) way(0, c)));
    }
    all.add((long) bed());
    for (int d = 0; d < deeds().size(); d++) {
      all.addAll(List.of((long) deed(d, 0), (long) deed(d, 1), (long) deed(d, 2)));
      all.addAll(List.of((long) heard(d, 0), (long) heard(d, 1), (long) hour(d, 0), (long) hour(d, 1)));
      all.addAll(List.of((long) whence(d, NONE), (long) whence(d, 0), (long) what(d), (long) ask(d)));
    }
    for (int h = 0; h < 10; h++) {
      all.addAll(List.of((long) noise(h), (long) depth(h)));
    }
    all.addAll(List.of((long) wakes(), (long) exiled(0), (long) exiled(1), (long) loudest()));
    all.addAll(List.of((long) felt(NONE), (long) felt(0), (long) lay(0), (long) lay(1), (long) never()));
    all.addAll(List.of(sleeps(5, 0), sleeps(5, 1), (long) day(7, 8, 0), (long) day(7, 8, 1)));
    long h = 17;
    for (long v : all) {
      h = 31 * h + v;
    }
    return h;
  }
}
