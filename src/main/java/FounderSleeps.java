import java.util.Arrays;

/** A town that must not wake its founder; README.md tells how it is used. */
public final class FounderSleeps {
  public static final int NONE = -1, BAD = -2, NOT = -3, FULL = -4;

  private static final int MOST_CELLS = 36, MOST_ROWS = 6, MOST_WIDE = 6, SIDES = 4;
  private static final int TOWN_BYTES = 41, DEED_BYTES = 39;
  private static final int OPEN = 0, BED = 3;
  private static final String CELL_SIGNS = ".hfb";
  private static final int[] TOLLS = {1, 4, 3, 1};
  private static final int FELT_TOLL = 3;

  private static final int MOST_DEEDS = 8, DEED_LENGTH = 5, KINDS = 4, CART = 2;
  private static final String KIND_SIGNS = "wckn";
  private static final int[] LOUDNESS = {3, 6, 9, 14};
  private static final int ALL_DEEDS = 255;

  private static final int HOURS = 10;
  private static final int MOST_DEPTH = 30, MOST_CHARTER = 20, REST = 3;
  private static final int DONE = 0, BARRED = 1, TOO_LATE = 2;
  private static final int MOST_THUNDERS = 6, MOST_THUNDER = 9;
  private static final int MOST_LISTENED = 8, MOST_MUCH = 99;
  private static final int HALF_OF_CELLS = 18;
  private static final int SIXTEENTHS = 16;

  private static final int SHEETS = 4, FORMS = 3, MOST_ITEMS = 60;
  private static final int NULL = 1, INDEX = 2, CAST = 3, STORE = 4, SIZE = 5;

  // LANGUAGE.md lists the functions of Integer and Long, not their constants.
  private static final int LEAST_INT = 1 << 31;
  private static final long LEAST_LONG = 1L << 63;

  // Above every sum of tolls, and small enough that two of it still fit an int.
  private static final int FAR = 1000000;

  /** The bytes of a text, as they were typed. */
  private static final class Text {
    final int[] bytes = new int[TOWN_BYTES];
    final int most;
    int size;

    Text(int most) {
      this.most = Math.min(most, TOWN_BYTES);
    }

    boolean isFull() {
      return size >= most;
    }

    void append(int b) {
      if (size >= 0 && size < bytes.length) {
        bytes[size] = b;
        size++;
      }
    }
  }

  /** The CELLS that a text tells. */
  private static final class Town {
    final int[] kinds = new int[MOST_CELLS];
    final int[] beside = new int[MOST_CELLS * SIDES];
    int cells;
    int width;
    int bedCell = NONE;
    int faultAt = NONE;

    void readFrom(Text text) {
      empty();
      faultAt = place(text);
      if (faultAt != NONE) {
        empty();
      }
      link();
    }

    private void empty() {
      cells = 0;
      width = 0;
      bedCell = NONE;
    }

    /** Places CELLS up to the first FAULT, and answers that. */
    private int place(Text text) {
      int row = 0;
      int column = 0;
      for (int at = 0; at < text.size; at++) {
        int b = text.bytes[at];
        if (b == ';') {
          if (isTooShort(column)) {
            return at;
          }
          row++;
          column = 0;
        } else {
          int kind = CELL_SIGNS.indexOf((char) b);
          if (!mayStand(kind, row, column)) {
            return at;
          }
          add(kind);
          column++;
          // The first ROW tells how wide all are, so it is never too short.
          if (row == 0) {
            width = column;
          }
        }
      }
      return text.size > 0 && isTooShort(column) ? text.size : NONE;
    }

    private boolean isTooShort(int column) {
      return column == 0 || column < width;
    }

    private boolean mayStand(int kind, int row, int column) {
      int most = row == 0 ? MOST_WIDE : width;
      if (kind < 0 || row >= MOST_ROWS || column >= most || cells >= MOST_CELLS) {
        return false;
      }
      return kind != BED || bedCell == NONE;
    }

    private void add(int kind) {
      if (kind == BED) {
        bedCell = cells;
      }
      kinds[cells] = kind;
      cells++;
    }

    private void link() {
      int column = 0;
      for (int i = 0; i < cells; i++) {
        int at = i * SIDES;
        beside[at] = i >= width ? i - width : NONE;
        beside[at + 1] = column + 1 < width ? i + 1 : NONE;
        beside[at + 2] = i + width < cells ? i + width : NONE;
        beside[at + 3] = column > 0 ? i - 1 : NONE;
        column = column + 1 < width ? column + 1 : 0;
      }
    }

    boolean has(int i) {
      return i >= 0 && i < cells;
    }

    boolean isOpen(int i) {
      return has(i) && kinds[i] == OPEN;
    }
  }

  /** What is lost from each CELL to one of them, by the way on which least is. */
  private static final class Reach {
    final int[] tolls = new int[MOST_CELLS];
    final int[] lost = new int[MOST_CELLS];

    void takeTolls(Town town) {
      for (int i = 0; i < town.cells; i++) {
        tolls[i] = TOLLS[town.kinds[i]];
      }
    }

    void layFelt(int i) {
      if (i >= 0 && i < tolls.length) {
        tolls[i] = FELT_TOLL;
      }
    }

    /** A toll is paid in each CELL that is come into, so the first one is free. */
    void spread(Town town, int target) {
      Arrays.fill(lost, FAR);
      if (!town.has(target)) {
        return;
      }
      lost[target] = 0;
      boolean better = true;
      for (int round = 0; better && round < MOST_CELLS; round++) {
        better = false;
        for (int i = 0; i < town.cells; i++) {
          // To and fro: so both ways through the rows are fast.
          int at = round % 2 == 0 ? i : town.cells - 1 - i;
          int least = leastBeside(town, at);
          if (least < lost[at]) {
            lost[at] = least;
            better = true;
          }
        }
      }
    }

    private int leastBeside(Town town, int at) {
      int least = FAR;
      for (int side = 0; side < SIDES; side++) {
        int next = town.beside[at * SIDES + side];
        if (next != NONE && lost[next] + tolls[next] < least) {
          least = lost[next] + tolls[next];
        }
      }
      return least;
    }

    /** CELLS that are not, and all where there is no target, are FAR. */
    int left(int loud, int i) {
      return i >= 0 && i < MOST_CELLS && loud > lost[i] ? loud - lost[i] : 0;
    }
  }

  /** DEEDS, as a text tells them, or as they are tried. */
  private static final class Deeds {
    final int[] places = new int[MOST_DEEDS];
    final int[] kinds = new int[MOST_DEEDS];
    final int[] hours = new int[MOST_DEEDS];
    int size;
    int faultAt = NONE;

    void readFrom(Text text) {
      faultAt = faultOf(text);
      size = 0;
      if (faultAt == NONE) {
        for (int at = 0; at + DEED_LENGTH - 1 <= text.size; at += DEED_LENGTH) {
          int place = figure(text, at) * 10 + figure(text, at + 1);
          add(place, KIND_SIGNS.indexOf((char) text.bytes[at + 2]), figure(text, at + 3));
        }
      }
    }

    private static int figure(Text text, int at) {
      return text.bytes[at] - '0';
    }

    private static int faultOf(Text text) {
      for (int at = 0; at < text.size; at++) {
        if (at / DEED_LENGTH >= MOST_DEEDS || !mayStand(text.bytes[at], at % DEED_LENGTH)) {
          return at;
        }
      }
      boolean ended = text.size == 0 || text.size % DEED_LENGTH == DEED_LENGTH - 1;
      return ended ? NONE : text.size;
    }

    private static boolean mayStand(int b, int part) {
      switch (part) {
        case 0:
          return b >= '0' && b <= '3';
        case 2:
          return KIND_SIGNS.indexOf((char) b) >= 0;
        case 4:
          return b == ';';
        default:
          return b >= '0' && b <= '9';
      }
    }

    void add(int place, int kind, int at) {
      if (size < MOST_DEEDS && kind >= 0 && kind < KINDS) {
        places[size] = place;
        kinds[size] = kind;
        hours[size] = at;
        size++;
      }
    }

    void takeFrom(Deeds other) {
      size = other.size;
      for (int i = 0; i < size; i++) {
        places[i] = other.places[i];
        kinds[i] = other.kinds[i];
        hours[i] = other.hours[i];
      }
    }
  }

  /** What is so in an HOUR, by so much: THUNDERS, or what was LISTENED. */
  private static final class Log {
    final int[] hours = new int[MOST_LISTENED];
    final int[] much = new int[MOST_LISTENED];
    final int most;
    int size;

    Log(int most) {
      this.most = Math.min(most, MOST_LISTENED);
    }

    boolean isFull() {
      return size >= most;
    }

    void add(int at, int howMuch) {
      if (!isFull()) {
        hours[size] = at;
        much[size] = howMuch;
        size++;
      }
    }

    int sumIn(int at) {
      int sum = 0;
      for (int i = 0; i < size; i++) {
        if (hours[i] == at) {
          sum += much[i];
        }
      }
      return sum;
    }

    /** NONE is no number that can be LISTENED, so a night that ended fails. */
    boolean agreesWith(Night night) {
      for (int i = 0; i < size; i++) {
        if (night.noises[hours[i]] != much[i]) {
          return false;
        }
      }
      return true;
    }
  }

  /** What holds in every HOUR, whatever is done. */
  private static final class Law {
    final Log thunders = new Log(MOST_THUNDERS);
    int depth = 12;
    int charter = 4;
  }

  /** HOUR by HOUR, what came of DEEDS. */
  private static final class Night {
    final Law law;
    final int[] noises = new int[HOURS];
    final int[] depths = new int[HOURS];
    final int[] shares = new int[MOST_DEEDS];
    final int[] fates = new int[MOST_DEEDS];
    int wakeHour = NONE;
    long exiles;

    Night(Law law) {
      this.law = law;
    }

    /** Only DEEDS whose bits are in present take part. */
    void pass(Deeds deeds, int present, Reach reach) {
      Arrays.fill(noises, NONE);
      Arrays.fill(depths, NONE);
      Arrays.fill(fates, TOO_LATE);
      for (int i = 0; i < deeds.size; i++) {
        shares[i] = reach.left(LOUDNESS[deeds.kinds[i]], deeds.places[i]);
      }
      wakeHour = NONE;
      exiles = 0;
      int deep = law.depth;
      for (int at = 0; at < HOURS && wakeHour == NONE; at++) {
        int loud = doDeeds(deeds, present, at) + law.thunders.sumIn(at);
        depths[at] = deep;
        noises[at] = loud;
        if (loud > deep) {
          wakeHour = at;
        } else {
          exileBy(deeds, present, at);
          deep = loud == 0 ? Math.min(MOST_DEPTH, deep + REST) : deep - loud / 2;
        }
      }
    }

    private int doDeeds(Deeds deeds, int present, int at) {
      int sum = 0;
      for (int i = 0; i < deeds.size; i++) {
        if (deeds.hours[i] == at && (present >> i & 1) == 1) {
          if ((exiles >> deeds.places[i] & 1) == 1) {
            fates[i] = BARRED;
          } else {
            fates[i] = DONE;
            sum += shares[i];
          }
        }
      }
      return sum;
    }

    private void exileBy(Deeds deeds, int present, int at) {
      for (int i = 0; i < deeds.size; i++) {
        boolean done = deeds.hours[i] == at && (present >> i & 1) == 1 && fates[i] == DONE;
        if (done && shares[i] > law.charter) {
          exiles |= 1L << deeds.places[i];
        }
      }
    }

    int lateness() {
      return wakeHour == NONE ? HOURS : wakeHour;
    }

    int doneOf(Deeds deeds) {
      int sum = 0;
      for (int i = 0; i < deeds.size; i++) {
        sum += fates[i] == DONE ? 1 : 0;
      }
      return sum;
    }
  }

  /** The four SHEETS, one behind the other in one row. */
  private static final class Sheets {
    final int[] forms = new int[SHEETS];
    final int[] sizes = new int[SHEETS];
    final int[] items = new int[SHEETS * MOST_ITEMS];

    Sheets() {
      Arrays.fill(forms, NONE);
    }

    boolean isLost(int s) {
      return forms[s] == NONE;
    }

    void renew(int s, int form, int n) {
      forms[s] = form;
      sizes[s] = n;
      for (int i = 0; i < n; i++) {
        items[s * MOST_ITEMS + i] = 0;
      }
    }

    boolean hasItem(int s, int i) {
      return i >= 0 && i < sizes[s];
    }

    int item(int s, int i) {
      return hasItem(s, i) ? items[s * MOST_ITEMS + i] : 0;
    }

    void store(int s, int i, int v) {
      if (hasItem(s, i)) {
        items[s * MOST_ITEMS + i] = cut(forms[s], v);
      }
    }

    private static int cut(int form, int v) {
      switch (form) {
        case 0:
          return (byte) v;
        case 1:
          return (short) v;
        default:
          return v;
      }
    }

    boolean hasItems(int s, int i, int n) {
      return n >= 0 && i >= 0 && i <= sizes[s] - n;
    }

    void move(int s, int i, int t, int j, int n) {
      if (hasItems(s, i, n) && hasItems(t, j, n)) {
        System.arraycopy(items, s * MOST_ITEMS + i, items, t * MOST_ITEMS + j, n);
      }
    }
  }

  private final Text townText = new Text(TOWN_BYTES);
  private final Text deedText = new Text(DEED_BYTES);
  private final Town town = new Town();
  private final Deeds told = new Deeds();
  private final Law law = new Law();
  private final Log ears = new Log(MOST_LISTENED);
  private final Reach toBed = new Reach();
  private final Night night = new Night(law);

  private final Deeds tried = new Deeds();
  private final Reach triedReach = new Reach();
  private final Night triedNight = new Night(law);
  private final int[] places = new int[MOST_CELLS];
  private final int[] placeNoises = new int[MOST_CELLS * HOURS];
  private final int[] laid = {NONE, NONE};
  private int feltNeeded;
  private boolean feltIsPlanned;

  private final Sheets sheets = new Sheets();
  private int latestFinding;

  public FounderSleeps() {
    sleepAnew();
  }

  // ---- the town, deeds, thunder

  public int type(int text, int b) {
    if (isOutside(text, 2) || isOutside(b, 256)) {
      return BAD;
    }
    Text t = textOf(text);
    if (t.isFull()) {
      return FULL;
    }
    t.append(b);
    readAnew(text);
    return t.size;
  }

  public int wipe(int text) {
    if (isOutside(text, 2)) {
      return BAD;
    }
    Text t = textOf(text);
    int had = t.size;
    t.size = 0;
    readAnew(text);
    return had;
  }

  public int undo(int text) {
    if (isOutside(text, 2)) {
      return BAD;
    }
    Text t = textOf(text);
    if (t.size == 0) {
      return NOT;
    }
    t.size--;
    readAnew(text);
    return t.size;
  }

  public int fault(int text) {
    if (isOutside(text, 2)) {
      return BAD;
    }
    return text == 0 ? town.faultAt : told.faultAt;
  }

  public int cell(int cell) {
    if (isOutside(cell, MOST_CELLS)) {
      return BAD;
    }
    return town.has(cell) ? town.kinds[cell] : NONE;
  }

  public int bed() {
    return town.bedCell;
  }

  public int deed(int deed, int what) {
    if (isNoDeed(deed) || isOutside(what, 3)) {
      return BAD;
    }
    if (what == 0) {
      return told.places[deed];
    }
    return what == 1 ? told.kinds[deed] : told.hours[deed];
  }

  public int set(int what, int v) {
    if (isOutside(what, 2) || isOutside(v, (what == 0 ? MOST_DEPTH : MOST_CHARTER) + 1)) {
      return BAD;
    }
    int was = what == 0 ? law.depth : law.charter;
    if (what == 0) {
      law.depth = v;
    } else {
      law.charter = v;
    }
    sleepAnew();
    return was;
  }

  public int thunder(int hour, int loud) {
    if (isNoThunder(hour, loud)) {
      return BAD;
    }
    if (law.thunders.isFull()) {
      return FULL;
    }
    law.thunders.add(hour, loud);
    sleepAnew();
    return law.thunders.size;
  }

  public int back() {
    if (law.thunders.size == 0) {
      return NOT;
    }
    law.thunders.size--;
    sleepAnew();
    return law.thunders.size;
  }

  public int read(int s) {
    if (isOutside(s, SHEETS)) {
      return BAD;
    }
    if (sheets.isLost(s)) {
      return find(NULL);
    }
    int had = law.thunders.size;
    for (int i = 0; i + 1 < sheets.sizes[s] && !law.thunders.isFull(); i += 2) {
      int at = sheets.item(s, i);
      int loud = sheets.item(s, i + 1);
      if (isNoThunder(at, loud)) {
        break;
      }
      law.thunders.add(at, loud);
    }
    sleepAnew();
    return law.thunders.size - had;
  }

  // ---- noise, sleep

  public int carry(int loud, int from, int to) {
    if (isOutside(loud, MOST_MUCH + 1) || !town.has(from) || !town.has(to)) {
      return BAD;
    }
    triedReach.takeTolls(town);
    triedReach.spread(town, to);
    return triedReach.left(loud, from);
  }

  public int heard(int deed, int what) {
    if (isNoDeed(deed) || isOutside(what, 2)) {
      return BAD;
    }
    return what == 0 ? night.shares[deed] : night.fates[deed];
  }

  public int noise(int hour) {
    return isOutside(hour, HOURS) ? BAD : night.noises[hour];
  }

  public int depth(int hour) {
    return isOutside(hour, HOURS) ? BAD : night.depths[hour];
  }

  public int wakes() {
    return night.wakeHour;
  }

  public int exiled(int half) {
    if (isOutside(half, 2)) {
      return BAD;
    }
    long bits = half == 0 ? night.exiles : night.exiles >> HALF_OF_CELLS;
    return (int) (bits & (1L << HALF_OF_CELLS) - 1);
  }

  public int loudest() {
    int best = NONE;
    for (int i = 0; i < told.size; i++) {
      boolean done = night.fates[i] == DONE;
      if (done && (best == NONE || night.shares[i] > night.shares[best])) {
        best = i;
      }
    }
    return best;
  }

  // ---- plans

  public int hour(int deed, int what) {
    if (isNoDeed(deed) || isOutside(what, 2)) {
      return BAD;
    }
    int best = bestHourOf(deed);
    return what == 0 ? best : asHour(latenessAt(deed, best));
  }

  public int felt(int i) {
    if (i < NONE || i > 1) {
      return BAD;
    }
    planFelt();
    return i == NONE ? feltNeeded : laid[i];
  }

  public int lay(int what) {
    if (isOutside(what, 2)) {
      return BAD;
    }
    int best = bestBed();
    if (what == 0 || best == NONE) {
      return best;
    }
    return asHour(latenessWithBed(best));
  }

  public int way(int from, int to) {
    if (!town.has(from) || !town.has(to)) {
      return BAD;
    }
    if (!town.isOpen(from) || !town.isOpen(to)) {
      return NONE;
    }
    for (int i = 0; i < town.cells; i++) {
      triedReach.tolls[i] = town.isOpen(i) ? toBed.left(LOUDNESS[CART], i) : FAR;
    }
    triedReach.spread(town, to);
    int sum = triedReach.lost[from];
    return sum >= FAR ? NONE : sum + triedReach.tolls[from];
  }

  // ---- listened, chance, days

  public int listened(int hour, int much) {
    if (isOutside(hour, HOURS) || isOutside(much, MOST_MUCH + 1)) {
      return BAD;
    }
    if (ears.isFull()) {
      return FULL;
    }
    ears.add(hour, much);
    return ears.size;
  }

  public int forget() {
    int had = ears.size;
    ears.size = 0;
    return had;
  }

  public int never() {
    int bits = 0;
    for (int i = 0; i < told.size; i++) {
      triedNight.pass(told, ALL_DEEDS & ~(1 << i), toBed);
      if (ears.agreesWith(triedNight)) {
        bits |= 1 << i;
      }
    }
    return bits;
  }

  public int whence(int deed, int i) {
    if (isNoDeed(deed) || i < NONE || i >= MOST_CELLS) {
      return BAD;
    }
    int many = findPlaces(deed);
    if (i == NONE) {
      return many;
    }
    return i < many ? places[i] : NONE;
  }

  public int what(int deed) {
    if (isNoDeed(deed)) {
      return BAD;
    }
    int bits = 0;
    tried.takeFrom(told);
    for (int kind = 0; kind < KINDS; kind++) {
      tried.kinds[deed] = kind;
      triedNight.pass(tried, ALL_DEEDS, toBed);
      if (ears.agreesWith(triedNight)) {
        bits |= 1 << kind;
      }
    }
    return bits;
  }

  public int ask(int deed) {
    if (isNoDeed(deed)) {
      return BAD;
    }
    int many = findPlaces(deed);
    int best = 0;
    int least = mostAlike(0, many);
    for (int at = 1; at < HOURS; at++) {
      int alike = mostAlike(at, many);
      if (alike < least) {
        least = alike;
        best = at;
      }
    }
    return best;
  }

  public long sleeps(int c, int what) {
    if (isOutside(c, SIXTEENTHS + 1) || isOutside(what, 2)) {
      return LEAST_LONG - BAD;
    }
    long above = weightOfSleep(c);
    long below = 1;
    for (int i = 0; i < told.size; i++) {
      below *= SIXTEENTHS;
    }
    // What is below is a power of 2: so halves alone can shorten it.
    for (int i = 0; i < 64 && above % 2 == 0 && below % 2 == 0; i++) {
      above /= 2;
      below /= 2;
    }
    return what == 0 ? above : below;
  }

  public int day(int seed, int n, int what) {
    if (n < 1 || n > MOST_DEEDS || isOutside(what, 2)) {
      return BAD;
    }
    drawDeeds(seed, n);
    triedNight.pass(tried, ALL_DEEDS, toBed);
    return what == 0 ? triedNight.wakeHour : Long.bitCount(triedNight.exiles);
  }

  // ---- sheets

  public int sheet(int s, int form, int n) {
    if (isOutside(s, SHEETS) || isOutside(form, FORMS) || n > MOST_ITEMS) {
      return BAD;
    }
    if (n < 0) {
      return find(SIZE);
    }
    sheets.renew(s, form, n);
    return n;
  }

  public int lose(int s) {
    if (isOutside(s, SHEETS)) {
      return BAD;
    }
    if (sheets.isLost(s)) {
      return find(NULL);
    }
    int had = sheets.sizes[s];
    sheets.renew(s, NONE, 0);
    return had;
  }

  public int put(int s, int form, int i, int v) {
    int refusal = refusalOfItem(s, form, i);
    if (refusal != 0) {
      return refusal;
    }
    sheets.store(s, i, v);
    return 1;
  }

  public int get(int s, int form, int i) {
    return refusalOfItem(s, form, i) != 0 ? LEAST_INT : sheets.item(s, i);
  }

  public int copy(int s, int i, int t, int j, int n) {
    if (isOutside(s, SHEETS) || isOutside(t, SHEETS)) {
      return BAD;
    }
    if (sheets.isLost(s) || sheets.isLost(t)) {
      return find(NULL);
    }
    if (sheets.forms[s] != sheets.forms[t]) {
      return find(STORE);
    }
    if (!sheets.hasItems(s, i, n) || !sheets.hasItems(t, j, n)) {
      return find(INDEX);
    }
    sheets.move(s, i, t, j, n);
    return 1;
  }

  public int write(int s) {
    if (isOutside(s, SHEETS)) {
      return BAD;
    }
    if (sheets.isLost(s)) {
      return find(NULL);
    }
    int many = Math.min(HOURS, sheets.sizes[s]);
    for (int i = 0; i < many; i++) {
      sheets.store(s, i, night.noises[i]);
    }
    return many;
  }

  public int count(int what) {
    switch (what) {
      case 0:
        return town.cells;
      case 1:
        return told.size;
      case 2:
        return townText.size;
      case 3:
        return deedText.size;
      case 4:
        return law.thunders.size;
      case 5:
        return night.doneOf(told);
      case 6:
        return Long.bitCount(night.exiles);
      case 7:
        return ears.size;
      case 8:
        return latestFinding;
      default:
        return BAD;
    }
  }

  public long digest() {
    long h = 17;
    for (int i = 0; i <= 7; i++) {
      h = mix(h, count(i));
    }
    h = mix(mix(h, fault(0)), fault(1));
    for (int i = 0; i < town.cells; i++) {
      h = mix(mix(mix(h, cell(i)), carry(20, 0, i)), way(0, i));
    }
    h = mix(h, bed());
    for (int i = 0; i < told.size; i++) {
      h = mixDeed(h, i);
    }
    for (int i = 0; i < HOURS; i++) {
      h = mix(mix(h, noise(i)), depth(i));
    }
    h = mix(mix(mix(h, wakes()), exiled(0)), exiled(1));
    h = mix(mix(mix(h, loudest()), felt(NONE)), felt(0));
    h = mix(mix(mix(h, lay(0)), lay(1)), never());
    h = mix(mix(h, sleeps(5, 0)), sleeps(5, 1));
    return mix(mix(h, day(7, 8, 0)), day(7, 8, 1));
  }

  private long mixDeed(long before, int i) {
    long h = mix(mix(mix(before, deed(i, 0)), deed(i, 1)), deed(i, 2));
    h = mix(mix(h, heard(i, 0)), heard(i, 1));
    h = mix(mix(h, hour(i, 0)), hour(i, 1));
    h = mix(mix(h, whence(i, NONE)), whence(i, 0));
    return mix(mix(h, what(i)), ask(i));
  }

  private static long mix(long h, long more) {
    return 31 * h + more;
  }

  private static boolean isOutside(int v, int end) {
    return v < 0 || v >= end;
  }

  private boolean isNoDeed(int i) {
    return isOutside(i, told.size);
  }

  private static boolean isNoThunder(int at, int loud) {
    return isOutside(at, HOURS) || loud < 1 || loud > MOST_THUNDER;
  }

  private Text textOf(int which) {
    return which == 0 ? townText : deedText;
  }

  private void readAnew(int which) {
    if (which == 0) {
      town.readFrom(townText);
    } else {
      told.readFrom(deedText);
    }
    sleepAnew();
  }

  /** Behind every change: what is kept of the night is then as it was told last. */
  private void sleepAnew() {
    toBed.takeTolls(town);
    toBed.spread(town, town.bedCell);
    night.pass(told, ALL_DEEDS, toBed);
    feltIsPlanned = false;
  }

  private static int asHour(int lateness) {
    return lateness < HOURS ? lateness : NONE;
  }

  private int bestHourOf(int deed) {
    int best = 0;
    int latest = NONE;
    for (int at = 0; at < HOURS; at++) {
      int lateness = latenessAt(deed, at);
      if (lateness > latest) {
        latest = lateness;
        best = at;
      }
    }
    return best;
  }

  private int latenessAt(int deed, int at) {
    tried.takeFrom(told);
    tried.hours[deed] = at;
    triedNight.pass(tried, ALL_DEEDS, toBed);
    return triedNight.lateness();
  }

  private int bestBed() {
    int best = NONE;
    int latest = NONE;
    for (int i = 0; i < town.cells; i++) {
      int lateness = town.isOpen(i) ? latenessWithBed(i) : NONE;
      if (lateness > latest) {
        latest = lateness;
        best = i;
      }
    }
    return best;
  }

  /** A bed takes as much from a noise as an open CELL, so the tolls stay. */
  private int latenessWithBed(int i) {
    triedReach.takeTolls(town);
    triedReach.spread(town, i);
    triedNight.pass(told, ALL_DEEDS, triedReach);
    return triedNight.lateness();
  }

  /** Kept till something changes, as it is the dearest of all to find. */
  private void planFelt() {
    if (feltIsPlanned) {
      return;
    }
    feltIsPlanned = true;
    laid[0] = NONE;
    laid[1] = NONE;
    if (night.wakeHour == NONE) {
      feltNeeded = 0;
    } else if (isStillWithOne()) {
      feltNeeded = 1;
    } else {
      feltNeeded = isStillWithTwo() ? 2 : NONE;
    }
  }

  private boolean isStillWithOne() {
    for (int i = 0; i < town.cells; i++) {
      if (town.isOpen(i) && isStillWith(i, NONE)) {
        laid[0] = i;
        return true;
      }
    }
    return false;
  }

  private boolean isStillWithTwo() {
    for (int i = 0; i < town.cells; i++) {
      for (int j = i + 1; j < town.cells; j++) {
        if (town.isOpen(i) && town.isOpen(j) && isStillWith(i, j)) {
          laid[0] = i;
          laid[1] = j;
          return true;
        }
      }
    }
    return false;
  }

  private boolean isStillWith(int i, int j) {
    triedReach.takeTolls(town);
    triedReach.layFelt(i);
    triedReach.layFelt(j);
    triedReach.spread(town, town.bedCell);
    triedNight.pass(told, ALL_DEEDS, triedReach);
    return triedNight.wakeHour == NONE;
  }

  /** WHENCE, with NOISE by each of them, HOUR by HOUR. */
  private int findPlaces(int deed) {
    int many = 0;
    tried.takeFrom(told);
    for (int i = 0; i < town.cells; i++) {
      tried.places[deed] = i;
      triedNight.pass(tried, ALL_DEEDS, toBed);
      if (ears.agreesWith(triedNight)) {
        places[many] = i;
        System.arraycopy(triedNight.noises, 0, placeNoises, many * HOURS, HOURS);
        many++;
      }
    }
    return many;
  }

  private int mostAlike(int at, int many) {
    int most = 0;
    for (int i = 0; i < many; i++) {
      int alike = 0;
      for (int j = 0; j < many; j++) {
        alike += placeNoises[i * HOURS + at] == placeNoises[j * HOURS + at] ? 1 : 0;
      }
      most = Math.max(most, alike);
    }
    return most;
  }

  private long weightOfSleep(int c) {
    long sum = 0;
    for (int present = 0; present < 1 << told.size; present++) {
      triedNight.pass(told, present, toBed);
      if (triedNight.wakeHour == NONE) {
        sum += weightOf(present, c);
      }
    }
    return sum;
  }

  private long weightOf(int present, int c) {
    long weight = 1;
    for (int i = 0; i < told.size; i++) {
      weight *= (present >> i & 1) == 1 ? c : SIXTEENTHS - c;
    }
    return weight;
  }

  private void drawDeeds(int seed, int n) {
    tried.size = 0;
    int lot = seed;
    for (int i = 0; i < n && town.cells > 0; i++) {
      lot = nextLot(lot);
      int place = (lot >>> 16) % town.cells;
      lot = nextLot(lot);
      int kind = (lot >>> 16) % KINDS;
      lot = nextLot(lot);
      tried.add(place, kind, (lot >>> 16) % HOURS);
    }
  }

  private static int nextLot(int seed) {
    return 1103515245 * seed + 12345;
  }

  private int refusalOfItem(int s, int form, int i) {
    if (isOutside(s, SHEETS) || isOutside(form, FORMS)) {
      return BAD;
    }
    if (sheets.isLost(s)) {
      return find(NULL);
    }
    if (sheets.forms[s] != form) {
      return find(CAST);
    }
    return sheets.hasItem(s, i) ? 0 : find(INDEX);
  }

  private int find(int finding) {
    latestFinding = finding;
    return -10 - finding;
  }
}
