/** Rows, tables and spans of numbers, gone through by calls that are told what to do with each. */
public final class Loopdefaults {
  private static final int NONE = -1;
  private static final int REFUSED = -9;
  private static final int NOTHING = -1000;
  private static final int NO_STOP = -1000;
  // A VALUE may be -9 itself, so what refuses inside is told by a number that no VALUE has.
  private static final int REFUSES = -1001;
  private static final int NO = 0;
  private static final int YES = 1;

  private static final int GREATEST = 999;
  private static final int GREATEST_STOP = 99999;
  private static final int KEYS = 20;
  private static final int ROW_ROOM = 12;
  private static final int SPAN_ROOM = 40;
  private static final int TEXT_ROOM = 10;
  private static final int LAST_RULE = 5;
  private static final int LAST_TEST = 5;
  // Far above the steps of any WALK: the longest one, through a SPAN, has 40 and one ask more.
  private static final int MOST_STEPS = 1000;

  private static final int BEGUN = 0;
  private static final int ASKED = 1;
  private static final int GIVEN = 2;
  private static final int REPLACED = 3;
  private static final int TAKEN = 4;
  private static final int STORED = 5;
  private static final int TOLD_TO_GO = 6;

  private final Row[] rows;
  private final Table shelf;
  private final Table[] tables;
  private final Hearer[] hearers;
  // What isSound() tries things on; made once, so that many calls of it make little.
  private final Row trialRow;
  private final Table trialShelf;
  private final Table[] trialTables;
  private int refusals;
  private int knocks;

  public Loopdefaults() {
    rows = new Row[] {new Row(), new Row()};
    shelf = new Table(false);
    tables = new Table[] {shelf, new Table(false), new Table(true)};
    hearers = new Hearer[] {new Hearer(), new Hearer()};
    trialRow = new Row();
    trialShelf = new Table(false);
    trialTables = new Table[] {trialShelf, new Table(false), new Table(true)};
  }

  // ---- rows

  public int type(int row, int value)
      throws IndexOutOfBoundsException, IllegalArgumentException, IllegalStateException {
    Row typed = rowFor(row);
    checkValue(value);
    if (typed.isFull()) {
      throw new IllegalStateException("the row is full");
    }
    typed.append(value);
    return typed.many;
  }

  public int drop(int row, int many) throws IndexOutOfBoundsException, IllegalArgumentException {
    Row dropped = rowFor(row);
    checkRange(many, 1, dropped.many);
    dropped.shorten(many);
    return dropped.many;
  }

  public int fix(int row, boolean isFixed) throws IndexOutOfBoundsException {
    Row held = rowFor(row);
    int before = oneIf(held.fixed);
    held.fixed = isFixed;
    return before;
  }

  public int hear(int row, int hearer) throws IndexOutOfBoundsException {
    Row told = rowFor(row);
    Hearer ear = hearerFor(hearer);
    return answer(hearOut(new RowWalk(told), ear));
  }

  public int rest(int row, int ahead, int hearer)
      throws IndexOutOfBoundsException, IllegalArgumentException {
    Row told = rowFor(row);
    Hearer ear = hearerFor(hearer);
    checkRange(ahead, 0, told.many);
    Walk walk = new RowWalk(told);
    passBy(walk, ahead);
    return answer(hearOut(walk, ear));
  }

  public int removeIf(int row, int test, int number)
      throws IndexOutOfBoundsException, IllegalArgumentException {
    Row sifted = rowFor(row);
    checkRange(test, 0, LAST_TEST);
    checkValue(number);
    return answer(takeEach(new RowWalk(sifted), test, number));
  }

  public int replaceAll(int row, int rule, int number)
      throws IndexOutOfBoundsException, IllegalArgumentException {
    Row changed = rowFor(row);
    checkRule(rule == 0 || rule == 1 || rule == 4);
    checkValue(number);
    boolean isLet = changeEach(new RowWalk(changed), rule, number);
    return isLet ? changed.many : refused();
  }

  public int copy(int row) throws IndexOutOfBoundsException {
    Row copied = rowFor(row);
    copied.become(rowFor(1 - row));
    return copied.many;
  }

  // ---- tables

  public int put(int table, int key, int value)
      throws IndexOutOfBoundsException, IllegalArgumentException {
    Table told = tableFor(table, key);
    checkValue(value);
    return told.store(key, value);
  }

  public int remove(int table, int key) throws IndexOutOfBoundsException, IllegalArgumentException {
    return tableFor(table, key).sendAway(key);
  }

  public int putIfAbsent(int table, int key, int value)
      throws IndexOutOfBoundsException, IllegalArgumentException {
    Table told = tableFor(table, key);
    checkValue(value);
    int before = told.look(key);
    return before == NOTHING ? told.store(key, value) : before;
  }

  public int replace(int table, int key, int value)
      throws IndexOutOfBoundsException, IllegalArgumentException {
    Table told = tableFor(table, key);
    checkValue(value);
    return told.look(key) == NOTHING ? NOTHING : told.store(key, value);
  }

  public boolean replaceIf(int table, int key, int old, int value)
      throws IndexOutOfBoundsException, IllegalArgumentException {
    Table told = tableFor(table, key);
    checkValue(old);
    checkValue(value);
    if (told.look(key) != old) {
      return false;
    }
    told.store(key, value);
    return true;
  }

  public boolean removePair(int table, int key, int value)
      throws IndexOutOfBoundsException, IllegalArgumentException {
    Table told = tableFor(table, key);
    checkValue(value);
    if (told.look(key) != value) {
      return false;
    }
    told.sendAway(key);
    return true;
  }

  public int computeIfAbsent(int table, int key, int rule, int number)
      throws IndexOutOfBoundsException, IllegalArgumentException {
    Table told = tableToReckon(table, key, rule, number);
    return answer(told.reckonAbsent(key, rule, number));
  }

  public int computeIfPresent(int table, int key, int rule, int number)
      throws IndexOutOfBoundsException, IllegalArgumentException {
    Table told = tableToReckon(table, key, rule, number);
    return answer(told.reckonPresent(key, rule, number));
  }

  public int compute(int table, int key, int rule, int number)
      throws IndexOutOfBoundsException, IllegalArgumentException {
    Table told = tableToReckon(table, key, rule, number);
    return answer(told.reckon(key, rule, number));
  }

  public int merge(int table, int key, int value, int rule)
      throws IndexOutOfBoundsException, IllegalArgumentException {
    Table told = tableToReckon(table, key, rule, value);
    return answer(told.join(key, value, rule));
  }

  public int hearTable(int table, int hearer) throws IndexOutOfBoundsException {
    Table told = tableFor(table);
    Hearer ear = hearerFor(hearer);
    return answer(hearOut(new TableWalk(told), ear));
  }

  public int replaceTable(int table, int rule, int number)
      throws IndexOutOfBoundsException, IllegalArgumentException {
    Table changed = tableFor(table);
    checkRule(rule == 0 || rule == 1 || rule == 4 || rule == 5);
    checkValue(number);
    boolean isLet = changeEach(new TableWalk(changed), rule, number);
    return isLet ? changed.many : refused();
  }

  public int clear(int table) throws IndexOutOfBoundsException {
    return tableFor(table).makeEmpty();
  }

  // ---- spans

  public int hearSpan(int from, int to, int by, int hearer)
      throws IndexOutOfBoundsException, IllegalArgumentException {
    Hearer ear = hearerFor(hearer);
    checkSpan(from, to, by);
    return answer(hearOut(new SpanWalk(from, to, by), ear));
  }

  public int hearSteps(int from, int to, int by, int ahead, int hearer)
      throws IndexOutOfBoundsException, IllegalArgumentException {
    Hearer ear = hearerFor(hearer);
    checkSpan(from, to, by);
    checkRange(ahead, 0, spanLength(from, to, by));
    Walk walk = new SpanWalk(from, to, by);
    passBy(walk, ahead);
    return answer(hearOut(walk, ear));
  }

  public int takeStep(int from, int to) throws IllegalArgumentException {
    checkValue(to);
    checkRange(from, -GREATEST, to);
    // No WALK of a SPAN can take one away.
    return refused();
  }

  // ---- hearers

  public int stop(int hearer, int number)
      throws IndexOutOfBoundsException, IllegalArgumentException {
    Hearer ear = hearerFor(hearer);
    checkRange(number, NO_STOP, GREATEST_STOP);
    int before = ear.barred;
    ear.barred = number;
    return before;
  }

  public int forget(int hearer) throws IndexOutOfBoundsException {
    Hearer ear = hearerFor(hearer);
    int before = ear.many;
    ear.beginAnew();
    return before;
  }

  public int heard(int hearer, int what)
      throws IndexOutOfBoundsException, IllegalArgumentException {
    Hearer ear = hearerFor(hearer);
    checkRange(what, 0, 3);
    return ear.tells(what);
  }

  public String heardText(int hearer) throws IndexOutOfBoundsException {
    return hearerFor(hearer).recent();
  }

  // ---- what is asked

  public int length(int row) throws IndexOutOfBoundsException {
    return rowFor(row).many;
  }

  public int at(int row, int place) throws IndexOutOfBoundsException {
    Row asked = rowFor(row);
    if (!asked.isPlace(place)) {
      throw new IndexOutOfBoundsException("there is no such place");
    }
    return asked.valueAt(place);
  }

  public String rowText(int row) throws IndexOutOfBoundsException {
    Row asked = rowFor(row);
    return joined(asked.values, asked.many);
  }

  public boolean isFixed(int row) throws IndexOutOfBoundsException {
    return rowFor(row).fixed;
  }

  public int counts(int row, int what) throws IndexOutOfBoundsException, IllegalArgumentException {
    Row asked = rowFor(row);
    checkRange(what, 0, TAKEN);
    return asked.tally.of(what);
  }

  public int shelfCounts(int what) throws IllegalArgumentException {
    checkRange(what, 0, TOLD_TO_GO);
    return shelf.tally.of(what);
  }

  public int forgetCounts() {
    int before = shelf.tally.startAnew();
    for (Row row : rows) {
      before += row.tally.startAnew();
    }
    return before;
  }

  public int get(int table, int key) throws IndexOutOfBoundsException, IllegalArgumentException {
    return tableFor(table, key).look(key);
  }

  public int getOr(int table, int key, int value)
      throws IndexOutOfBoundsException, IllegalArgumentException {
    Table asked = tableFor(table, key);
    checkValue(value);
    int there = asked.look(key);
    return there == NOTHING ? value : there;
  }

  public boolean has(int table, int key)
      throws IndexOutOfBoundsException, IllegalArgumentException {
    return tableFor(table, key).look(key) != NOTHING;
  }

  public int size(int table) throws IndexOutOfBoundsException {
    return tableFor(table).many;
  }

  public String text(int table) throws IndexOutOfBoundsException {
    return tableFor(table).pairs();
  }

  public boolean areLike(int table, int other) throws IndexOutOfBoundsException {
    Table one = tableFor(table);
    return one.hasPairsOf(tableFor(other));
  }

  public int given(int rule, int key, int value, int number) throws IllegalArgumentException {
    checkKey(key);
    checkRange(value, NOTHING, GREATEST);
    checkRange(rule, 0, LAST_RULE);
    checkValue(number);
    int told = ruleTells(rule, key, value, number);
    return told == REFUSES ? REFUSED : told;
  }

  public int tested(int test, int value, int number) throws IllegalArgumentException {
    checkRange(test, 0, LAST_TEST);
    checkValue(value);
    checkValue(number);
    int told = testTells(test, value, number);
    return told == REFUSES ? REFUSED : told;
  }

  // ---- the whole

  public int knock() {
    knocks++;
    return knocks;
  }

  public int house(int what) throws IllegalArgumentException {
    checkRange(what, 0, 4);
    switch (what) {
      case 0:
        return valuesOfRows();
      case 1:
        return pairsOfTables();
      case 2:
        return numbersHeard();
      case 3:
        return refusals;
      default:
        return knocks;
    }
  }

  public boolean isSound() {
    for (Row row : rows) {
      if (!isWalkCounted(row) || !isTakingPlain(row)) {
        return false;
      }
    }
    for (Table table : tables) {
      if (!areCopiesLike(table) || !areCallsLike(table)) {
        return false;
      }
    }
    return true;
  }

  public long digest() {
    long d = 7774;
    for (int what = 0; what <= 4; what++) {
      d = mixed(d, house(what));
    }
    for (Row row : rows) {
      d = mixedRow(d, row);
    }
    for (Table table : tables) {
      d = mixedTable(d, table);
    }
    for (int what = 0; what <= TOLD_TO_GO; what++) {
      d = mixed(d, shelf.tally.of(what));
    }
    for (Hearer hearer : hearers) {
      d = mixedHearer(d, hearer);
    }
    return mixed(d, oneIf(isSound()));
  }

  // ---- what the calls look at first

  private Row rowFor(int row) {
    if (row < 0 || row >= rows.length) {
      throw new IndexOutOfBoundsException("there is no such row");
    }
    return rows[row];
  }

  private Table tableFor(int table) {
    if (table < 0 || table >= tables.length) {
      throw new IndexOutOfBoundsException("there is no such table");
    }
    return tables[table];
  }

  private Table tableFor(int table, int key) {
    Table found = tableFor(table);
    checkKey(key);
    return found;
  }

  private Table tableToReckon(int table, int key, int rule, int number) {
    Table found = tableFor(table, key);
    checkRange(rule, 0, LAST_RULE);
    checkValue(number);
    return found;
  }

  private Hearer hearerFor(int hearer) {
    if (hearer < 0 || hearer >= hearers.length) {
      throw new IndexOutOfBoundsException("there is no such hearer");
    }
    return hearers[hearer];
  }

  private static void checkRange(int number, int least, int greatest) {
    if (number < least || number > greatest) {
      throw new IllegalArgumentException("the number is out of its range");
    }
  }

  private static void checkValue(int number) {
    checkRange(number, -GREATEST, GREATEST);
  }

  private static void checkKey(int key) {
    checkRange(key, 0, KEYS - 1);
  }

  private static void checkRule(boolean isOneOfThese) {
    if (!isOneOfThese) {
      throw new IllegalArgumentException("the rule is not one of these");
    }
  }

  private static void checkSpan(int from, int to, int by) {
    checkValue(from);
    checkValue(to);
    checkRange(by, 1, 99);
    checkRange(spanLength(from, to, by), 0, SPAN_ROOM);
  }

  private static int spanLength(int from, int to, int by) {
    return from > to || by < 1 ? 0 : (to - from) / by + 1;
  }

  // ---- what is told by one who refuses

  private int refused() {
    refusals++;
    return REFUSED;
  }

  private int answer(int told) {
    return told == REFUSES ? refused() : told;
  }

  // ---- rules and tests

  /** A VALUE, NOTHING or REFUSES. */
  private static int ruleTells(int rule, int key, int value, int number) {
    int asked = value == NOTHING ? 0 : value;
    int sum = bounded(asked + number);
    switch (rule) {
      case 0:
        return sum;
      case 1:
        return asked > number ? asked : number;
      case 2:
        return isEven(sum) ? sum : NOTHING;
      case 3:
        return NOTHING;
      case 4:
        return isEven(sum) ? sum : REFUSES;
      default:
        return bounded(key + number);
    }
  }

  /** YES, NO or REFUSES. */
  private static int testTells(int test, int value, int number) {
    switch (test) {
      case 0:
        return oneIf(isEven(value));
      case 1:
        return oneIf(!isEven(value));
      case 2:
        return oneIf(value < number);
      case 3:
        return oneIf(value > number);
      case 4:
        return oneIf(value == number);
      default:
        return value == number ? REFUSES : NO;
    }
  }

  private static int bounded(int number) {
    if (number > GREATEST) {
      return GREATEST;
    }
    return number < -GREATEST ? -GREATEST : number;
  }

  private static boolean isEven(int number) {
    return (number & 1) == 0;
  }

  private static int oneIf(boolean isSo) {
    return isSo ? YES : NO;
  }

  // ---- loops: whatever is gone through, a WALK leads

  private static void passBy(Walk walk, int ahead) {
    for (int passed = 0; passed < ahead; passed++) {
      walk.give();
    }
  }

  /** How many were heard, or REFUSES. */
  private static int hearOut(Walk walk, Hearer ear) {
    int many = 0;
    for (int step = 0; step < MOST_STEPS && walk.ask(); step++) {
      if (!ear.takesIn(walk.give())) {
        return REFUSES;
      }
      many++;
    }
    return many;
  }

  /** Whether nothing refused. */
  private static boolean changeEach(Walk walk, int rule, int number) {
    for (int step = 0; step < MOST_STEPS && walk.ask(); step++) {
      walk.give();
      int told = ruleTells(rule, walk.key, walk.value, number);
      if (told == REFUSES || !walk.putInPlace(told)) {
        return false;
      }
    }
    return true;
  }

  /** YES if one was taken away, NO if none was, or REFUSES. */
  private static int takeEach(RowWalk walk, int test, int number) {
    int taken = NO;
    for (int step = 0; step < MOST_STEPS && walk.ask(); step++) {
      int told = testTells(test, walk.give(), number);
      if (told == REFUSES || told == YES && !walk.takeAway()) {
        return REFUSES;
      }
      if (told == YES) {
        taken = YES;
      }
    }
    return taken;
  }

  // ---- sums of the whole

  private int valuesOfRows() {
    int sum = 0;
    for (Row row : rows) {
      sum += row.many;
    }
    return sum;
  }

  private int pairsOfTables() {
    int sum = 0;
    for (Table table : tables) {
      sum += table.many;
    }
    return sum;
  }

  private int numbersHeard() {
    int sum = 0;
    for (Hearer hearer : hearers) {
      sum += hearer.many;
    }
    return sum;
  }

  // ---- whether all is sound

  private boolean isWalkCounted(Row row) {
    trialRow.become(row);
    trialRow.tally.startAnew();
    Walk walk = new RowWalk(trialRow);
    for (int step = 0; step < MOST_STEPS && walk.ask(); step++) {
      walk.give();
    }
    Tally tally = trialRow.tally;
    return tally.of(BEGUN) == 1 && tally.of(GIVEN) == row.many && tally.of(ASKED) == row.many + 1;
  }

  private boolean isTakingPlain(Row row) {
    for (int test = 0; test <= 4; test++) {
      trialRow.become(row);
      takeEach(new RowWalk(trialRow), test, 0);
      if (!isWhatIsLeft(trialRow, row, test)) {
        return false;
      }
    }
    return true;
  }

  private static boolean isWhatIsLeft(Row left, Row row, int test) {
    int many = 0;
    for (int place = 0; place < row.many; place++) {
      int value = row.valueAt(place);
      if (testTells(test, value, 0) == NO) {
        if (!left.isPlace(many) || left.valueAt(many) != value) {
          return false;
        }
        many++;
      }
    }
    return left.many == many;
  }

  private boolean areCopiesLike(Table table) {
    for (Table trial : trialTables) {
      trial.become(table);
      if (!trial.hasPairsOf(table)) {
        return false;
      }
    }
    return true;
  }

  private boolean areCallsLike(Table table) {
    for (int key = 0; key <= 3; key++) {
      for (int call = 0; call <= 3; call++) {
        if (!isCallLike(table, call, key, 0)
            || !isCallLike(table, call, key, 2)
            || !isCallLike(table, call, key, 3)) {
          return false;
        }
      }
    }
    return true;
  }

  /** Whether the copies on the other kinds tell and leave what the one on the SHELF's does. */
  private boolean isCallLike(Table table, int call, int key, int rule) {
    int due = 0;
    for (Table trial : trialTables) {
      trial.become(table);
      int told;
      switch (call) {
        case 0:
          told = trial.reckon(key, rule, 1);
          break;
        case 1:
          told = trial.reckonAbsent(key, rule, 1);
          break;
        case 2:
          told = trial.reckonPresent(key, rule, 1);
          break;
        default:
          told = trial.join(key, 1, rule);
          break;
      }
      if (trial == trialShelf) {
        due = told;
      } else if (told != due || !trial.hasPairsOf(trialShelf)) {
        return false;
      }
    }
    return true;
  }

  // ---- the checksum

  private static long mixed(long d, int number) {
    return d * 31 + number;
  }

  private static long mixedRow(long d, Row row) {
    long mix = mixed(d, row.many);
    for (int place = 0; place < row.many; place++) {
      mix = mixed(mix, row.valueAt(place));
    }
    mix = mixed(mix, oneIf(row.fixed));
    for (int what = 0; what <= TAKEN; what++) {
      mix = mixed(mix, row.tally.of(what));
    }
    return mix;
  }

  private static long mixedTable(long d, Table table) {
    long mix = mixed(d, table.many);
    for (int place = 0; place < table.many; place++) {
      int key = table.keyAt(place);
      mix = mixed(mixed(mix, key), table.look(key));
    }
    return mix;
  }

  private static long mixedHearer(long d, Hearer hearer) {
    long mix = d;
    for (int what = 0; what <= 3; what++) {
      mix = mixed(mix, hearer.tells(what));
    }
    return mixed(mix, hearer.recent().length());
  }

  private static void takeOver(int[] numbers, int[] others) {
    for (int place = 0; place < numbers.length && place < others.length; place++) {
      numbers[place] = others[place];
    }
  }

  /** The first ones of the numbers, with one blank between. */
  private static String joined(int[] numbers, int many) {
    StringBuilder told = new StringBuilder();
    for (int place = 0; place < many && place < numbers.length; place++) {
      if (place > 0) {
        told.append(' ');
      }
      told.append(numbers[place]);
    }
    return told.toString();
  }

  /** COUNTS. Only those of the ROWS and of the SHELF are ever told. */
  private static final class Tally {
    private final int[] counted = new int[TOLD_TO_GO + 1];

    void add(int what) {
      if (what >= 0 && what < counted.length) {
        counted[what]++;
      }
    }

    int of(int what) {
      return what >= 0 && what < counted.length ? counted[what] : 0;
    }

    /** Tells the sum of all before. */
    int startAnew() {
      int sum = 0;
      for (int what = 0; what < counted.length; what++) {
        sum += counted[what];
        counted[what] = 0;
      }
      return sum;
    }
  }

  private static final class Row {
    private final int[] values = new int[ROW_ROOM];
    private final Tally tally = new Tally();
    private int many;
    private boolean fixed;

    boolean isFull() {
      return many >= values.length;
    }

    boolean isPlace(int place) {
      return place >= 0 && place < many && place < values.length;
    }

    int valueAt(int place) {
      return isPlace(place) ? values[place] : 0;
    }

    void setAt(int place, int value) {
      if (isPlace(place)) {
        values[place] = value;
      }
    }

    void append(int value) {
      if (many >= 0 && many < values.length) {
        values[many] = value;
        many++;
      }
    }

    void shorten(int by) {
      if (by >= 0 && by <= many) {
        many -= by;
      }
    }

    void takeOut(int place) {
      if (!isPlace(place)) {
        return;
      }
      for (int behind = place + 1; behind < many && behind < values.length; behind++) {
        values[behind - 1] = values[behind];
      }
      many--;
    }

    void become(Row other) {
      takeOver(values, other.values);
      many = other.many;
    }
  }

  private static final class Table {
    private final boolean isSorted;
    private final int[] values = new int[KEYS];
    private final int[] sequence = new int[KEYS];
    private final Tally tally = new Tally();
    private int many;

    Table(boolean isSorted) {
      this.isSorted = isSorted;
      for (int key = 0; key < values.length; key++) {
        values[key] = NOTHING;
      }
    }

    int look(int key) {
      return key >= 0 && key < values.length ? values[key] : NOTHING;
    }

    int keyAt(int place) {
      return place >= 0 && place < many && place < sequence.length ? sequence[place] : 0;
    }

    /** Tells the VALUE before. */
    int store(int key, int value) {
      tally.add(STORED);
      int before = look(key);
      if (before == NOTHING) {
        addKey(key);
      }
      setValue(key, value);
      return before;
    }

    void setValue(int key, int value) {
      if (key >= 0 && key < values.length) {
        values[key] = value;
      }
    }

    /** Tells the VALUE before. */
    int sendAway(int key) {
      tally.add(TOLD_TO_GO);
      int before = look(key);
      if (before != NOTHING) {
        takeKey(key);
        setValue(key, NOTHING);
      }
      return before;
    }

    private void addKey(int key) {
      if (many < 0 || many >= sequence.length) {
        return;
      }
      int place = many;
      while (isSorted && place > 0 && sequence[place - 1] > key) {
        sequence[place] = sequence[place - 1];
        place--;
      }
      sequence[place] = key;
      many++;
    }

    private void takeKey(int key) {
      int kept = 0;
      for (int place = 0; place < many && place < sequence.length; place++) {
        if (sequence[place] != key) {
          sequence[kept] = sequence[place];
          kept++;
        }
      }
      many = kept;
    }

    /** Tells how many PAIRS there were. */
    int makeEmpty() {
      int before = many;
      many = 0;
      for (int key = 0; key < values.length; key++) {
        values[key] = NOTHING;
      }
      return before;
    }

    void become(Table other) {
      takeOver(values, other.values);
      takeOver(sequence, other.sequence);
      many = other.many;
      if (isSorted) {
        sortKeys();
      }
    }

    private void sortKeys() {
      int place = 0;
      for (int key = 0; key < values.length && place < sequence.length; key++) {
        if (values[key] != NOTHING) {
          sequence[place] = key;
          place++;
        }
      }
    }

    boolean hasPairsOf(Table other) {
      for (int key = 0; key < values.length; key++) {
        if (values[key] != other.look(key)) {
          return false;
        }
      }
      return true;
    }

    /** As all that reckon here: the VALUE then, NOTHING or REFUSES. */
    int reckonAbsent(int key, int rule, int number) {
      int before = look(key);
      if (before != NOTHING) {
        return before;
      }
      int told = ruleTells(rule, key, before, number);
      if (told != NOTHING && told != REFUSES) {
        store(key, told);
      }
      return told;
    }

    int reckonPresent(int key, int rule, int number) {
      return look(key) == NOTHING ? NOTHING : reckon(key, rule, number);
    }

    int reckon(int key, int rule, int number) {
      int before = look(key);
      int told = ruleTells(rule, key, before, number);
      if (told == REFUSES) {
        return REFUSES;
      }
      if (told != NOTHING) {
        store(key, told);
      } else if (before != NOTHING) {
        sendAway(key);
      }
      return told;
    }

    int join(int key, int value, int rule) {
      if (look(key) != NOTHING) {
        return reckon(key, rule, value);
      }
      store(key, value);
      return value;
    }

    String pairs() {
      StringBuilder told = new StringBuilder();
      for (int place = 0; place < many; place++) {
        if (place > 0) {
          told.append(' ');
        }
        int key = keyAt(place);
        told.append(key).append('=').append(look(key));
      }
      return told.toString();
    }
  }

  private static final class Hearer {
    private final int[] latest = new int[TEXT_ROOM];
    private int kept;
    private int many;
    private int sum;
    private int last = NONE;
    private int barred = NO_STOP;

    /** Whether the number was heard; it is refused otherwise. */
    boolean takesIn(int number) {
      if (barred != NO_STOP && number == barred) {
        return false;
      }
      many++;
      sum += number;
      last = number;
      keep(number);
      return true;
    }

    private void keep(int number) {
      if (kept >= latest.length) {
        dropOldest();
      }
      if (kept >= 0 && kept < latest.length) {
        latest[kept] = number;
        kept++;
      }
    }

    private void dropOldest() {
      for (int place = 1; place < latest.length; place++) {
        latest[place - 1] = latest[place];
      }
      kept--;
    }

    void beginAnew() {
      kept = 0;
      many = 0;
      sum = 0;
      last = NONE;
    }

    int tells(int what) {
      switch (what) {
        case 0:
          return many;
        case 1:
          return sum;
        case 2:
          return last;
        default:
          return barred;
      }
    }

    String recent() {
      return joined(latest, kept);
    }
  }

  /** One that is asked, gives, and may be told to change what it gave last; it counts all that. */
  private abstract static class Walk {
    final Tally tally;
    int key;
    int value;

    Walk(Tally tally) {
      this.tally = tally;
      tally.add(BEGUN);
    }

    abstract boolean isMore();

    /** The next one as it is heard; its KEY and VALUE are kept. */
    abstract int next();

    /** Whether it was put; it is refused otherwise. */
    abstract boolean putInPlace(int told);

    final boolean ask() {
      tally.add(ASKED);
      return isMore();
    }

    final int give() {
      tally.add(GIVEN);
      return next();
    }
  }

  private static final class RowWalk extends Walk {
    private final Row row;
    private int place;

    RowWalk(Row row) {
      super(row.tally);
      this.row = row;
    }

    boolean isMore() {
      return place < row.many;
    }

    int next() {
      value = row.valueAt(place);
      place++;
      return value;
    }

    boolean putInPlace(int told) {
      if (row.fixed) {
        return false;
      }
      tally.add(REPLACED);
      row.setAt(place - 1, told);
      return true;
    }

    /** Whether it was taken; it is refused otherwise. */
    boolean takeAway() {
      if (row.fixed) {
        return false;
      }
      tally.add(TAKEN);
      place--;
      row.takeOut(place);
      return true;
    }
  }

  private static final class TableWalk extends Walk {
    private final Table table;
    private int place;

    TableWalk(Table table) {
      super(table.tally);
      this.table = table;
    }

    boolean isMore() {
      return place < table.many;
    }

    int next() {
      key = table.keyAt(place);
      value = table.look(key);
      place++;
      return 1000 * key + value;
    }

    boolean putInPlace(int told) {
      tally.add(REPLACED);
      table.setValue(key, told);
      return true;
    }
  }

  /** Its counts are nobody's, and it lets nothing be changed. */
  private static final class SpanWalk extends Walk {
    private final int to;
    private final int by;
    private int ahead;

    SpanWalk(int from, int to, int by) {
      super(new Tally());
      this.ahead = from;
      this.to = to;
      this.by = by;
    }

    boolean isMore() {
      return ahead <= to;
    }

    int next() {
      value = ahead;
      ahead += by;
      return value;
    }

    boolean putInPlace(int told) {
      return false;
    }
  }
}
