import java.util.AbstractList;
import java.util.AbstractMap;
import java.util.AbstractSet;
import java.util.ArrayDeque;
import java.util.ArrayList;
import java.util.Deque;
import java.util.Iterator;
import java.util.LinkedHashMap;
import java.util.List;
import java.util.ListIterator;
import java.util.Map;
import java.util.Set;
import java.util.StringJoiner;
import java.util.TreeMap;
import java.util.function.BiFunction;
import java.util.function.Function;
import java.util.function.IntConsumer;
import java.util.function.Predicate;

/**
 * What the document says, told by the Java library's own collections: the rows and the shelf give
 * no more than iterators, get, put and remove, all else is the library's default methods.
 */
final class Model {
  /** What refuses within. */
  private static final class Refusal extends RuntimeException {
    private static final long serialVersionUID = 1;
  }

  private static final class CountedRow extends AbstractList<Integer> {
    final List<Integer> values = new ArrayList<>();
    final int[] counts = new int[5];
    boolean isFixed;

    @Override
    public Integer get(int place) {
      return values.get(place);
    }

    @Override
    public int size() {
      return values.size();
    }

    @Override
    public Iterator<Integer> iterator() {
      return listIterator();
    }

    @Override
    public ListIterator<Integer> listIterator() {
      counts[0]++;
      ListIterator<Integer> inner = values.listIterator();
      return new ListIterator<>() {
        @Override
        public boolean hasNext() {
          counts[1]++;
          return inner.hasNext();
        }

        @Override
        public Integer next() {
          counts[2]++;
          return inner.next();
        }

        @Override
        public void set(Integer value) {
          refuseFixed();
          counts[3]++;
          inner.set(value);
        }

        @Override
        public void remove() {
          refuseFixed();
          counts[4]++;
          inner.remove();
        }

        @Override
        public void add(Integer value) {
          throw new UnsupportedOperationException();
        }

        @Override
        public boolean hasPrevious() {
          throw new UnsupportedOperationException();
        }

        @Override
        public Integer previous() {
          throw new UnsupportedOperationException();
        }

        @Override
        public int nextIndex() {
          throw new UnsupportedOperationException();
        }

        @Override
        public int previousIndex() {
          throw new UnsupportedOperationException();
        }
      };
    }

    private void refuseFixed() {
      if (isFixed) {
        throw new Refusal();
      }
    }
  }

  private static final class Shelf extends AbstractMap<Integer, Integer> {
    final Map<Integer, Integer> pairs = new LinkedHashMap<>();
    final int[] counts = new int[7];

    @Override
    public Integer get(Object key) {
      return pairs.get(key);
    }

    @Override
    public boolean containsKey(Object key) {
      return pairs.containsKey(key);
    }

    @Override
    public int size() {
      return pairs.size();
    }

    @Override
    public Integer put(Integer key, Integer value) {
      counts[5]++;
      return pairs.put(key, value);
    }

    @Override
    public Integer remove(Object key) {
      counts[6]++;
      return pairs.remove(key);
    }

    @Override
    public void clear() {
      pairs.clear();
    }

    @Override
    public Set<Entry<Integer, Integer>> entrySet() {
      return new AbstractSet<>() {
        @Override
        public int size() {
          return pairs.size();
        }

        @Override
        public Iterator<Entry<Integer, Integer>> iterator() {
          counts[0]++;
          return walk();
        }
      };
    }

    private Iterator<Entry<Integer, Integer>> walk() {
      Iterator<Entry<Integer, Integer>> inner = pairs.entrySet().iterator();
      return new Iterator<>() {
        @Override
        public boolean hasNext() {
          counts[1]++;
          return inner.hasNext();
        }

        @Override
        public Entry<Integer, Integer> next() {
          counts[2]++;
          Entry<Integer, Integer> entry = inner.next();
          return new SimpleEntry<>(entry) {
            private static final long serialVersionUID = 1;

            @Override
            public Integer setValue(Integer value) {
              counts[3]++;
              return entry.setValue(value);
            }
          };
        }
      };
    }
  }

  private static final class Ear {
    final Deque<Integer> latest = new ArrayDeque<>();
    int many;
    int sum;
    int last = -1;
    int barred = -1000;

    void hear(int number) {
      if (number == barred) {
        throw new Refusal();
      }
      many++;
      sum += number;
      last = number;
      latest.addLast(number);
      if (latest.size() > 10) {
        latest.removeFirst();
      }
    }

    String text() {
      StringJoiner told = new StringJoiner(" ");
      latest.forEach(number -> told.add(number.toString()));
      return told.toString();
    }
  }

  private final CountedRow[] rows = {new CountedRow(), new CountedRow()};
  private final Shelf shelf = new Shelf();
  private final List<Map<Integer, Integer>> tables =
      List.of(shelf, new LinkedHashMap<>(), new TreeMap<>());
  private final Ear[] ears = {new Ear(), new Ear()};
  private int refusals;
  private int knocks;

  private interface Led {
    Object answer();
  }

  private Object led(Led call) {
    try {
      return call.answer();
    } catch (Refusal refusal) {
      refusals++;
      return -9;
    }
  }

  private static void index(boolean isRight) {
    if (!isRight) {
      throw new IndexOutOfBoundsException();
    }
  }

  private static void argument(boolean isRight) {
    if (!isRight) {
      throw new IllegalArgumentException();
    }
  }

  private static void pair(int number) {
    argument(number >= 0 && number < 20);
  }

  private static void value(int number) {
    argument(Math.abs((long) number) <= 999);
  }

  private static void among(int number, int from, int to) {
    argument(number >= from && number <= to);
  }

  private CountedRow row(int row) {
    index(row == 0 || row == 1);
    return rows[row];
  }

  private Map<Integer, Integer> table(int table) {
    index(table >= 0 && table <= 2);
    return tables.get(table);
  }

  private Ear ear(int ear) {
    index(ear == 0 || ear == 1);
    return ears[ear];
  }

  private static int told(Integer value) {
    return value == null ? -1000 : value;
  }

  private static int bounded(int number) {
    return Math.max(-999, Math.min(999, number));
  }

  private static BiFunction<Integer, Integer, Integer> rule(int rule, int n) {
    return (key, before) -> {
      int v = before == null ? 0 : before;
      int sum = bounded(v + n);
      switch (rule) {
        case 0:
          return sum;
        case 1:
          return Math.max(v, n);
        case 2:
          return sum % 2 == 0 ? sum : null;
        case 3:
          return null;
        case 4:
          if (sum % 2 != 0) {
            throw new Refusal();
          }
          return sum;
        default:
          return bounded(key + n);
      }
    };
  }

  private static Predicate<Integer> test(int test, int n) {
    return v -> {
      switch (test) {
        case 0:
          return v % 2 == 0;
        case 1:
          return v % 2 != 0;
        case 2:
          return v < n;
        case 3:
          return v > n;
        case 4:
          return v == n;
        default:
          if (v == n) {
            throw new Refusal();
          }
          return false;
      }
    };
  }

  private static int heardBy(Ear ear, Function<IntConsumer, Object> loop) {
    int before = ear.many;
    loop.apply(ear::hear);
    return ear.many - before;
  }

  private static List<Integer> span(int from, int to, int by) {
    value(from);
    value(to);
    among(by, 1, 99);
    List<Integer> span = new ArrayList<>();
    for (int number = from; number <= to; number += by) {
      span.add(number);
    }
    argument(span.size() <= 40);
    return span;
  }

  private Object hearFrom(Iterable<Integer> loop, int ahead, Ear ear) {
    return led(
        () -> {
          Iterator<Integer> walk = loop.iterator();
          for (int i = 0; i < ahead; i++) {
            walk.next();
          }
          return heardBy(
              ear,
              hears -> {
                walk.forEachRemaining(number -> hears.accept(number));
                return null;
              });
        });
  }

  Object type(int row, int value) {
    CountedRow typed = row(row);
    value(value);
    if (typed.values.size() == 12) {
      throw new IllegalStateException();
    }
    typed.values.add(value);
    return typed.values.size();
  }

  Object drop(int row, int many) {
    List<Integer> values = row(row).values;
    among(many, 1, values.size());
    values.subList(values.size() - many, values.size()).clear();
    return values.size();
  }

  Object fix(int row, boolean isFixed) {
    boolean before = row(row).isFixed;
    rows[row].isFixed = isFixed;
    return before ? 1 : 0;
  }

  Object hear(int row, int hearer) {
    CountedRow told = row(row);
    Ear ear = ear(hearer);
    return led(
        () ->
            heardBy(
                ear,
                hears -> {
                  told.forEach(number -> hears.accept(number));
                  return null;
                }));
  }

  Object rest(int row, int ahead, int hearer) {
    CountedRow told = row(row);
    Ear ear = ear(hearer);
    among(ahead, 0, told.size());
    return hearFrom(told, ahead, ear);
  }

  Object removeIf(int row, int test, int number) {
    CountedRow sifted = row(row);
    among(test, 0, 5);
    value(number);
    return led(() -> sifted.removeIf(test(test, number)) ? 1 : 0);
  }

  Object replaceAll(int row, int rule, int number) {
    CountedRow changed = row(row);
    argument(rule == 0 || rule == 1 || rule == 4);
    value(number);
    return led(
        () -> {
          changed.replaceAll(value -> rule(rule, number).apply(0, value));
          return changed.size();
        });
  }

  Object copy(int row) {
    List<Integer> values = row(row).values;
    values.clear();
    values.addAll(rows[1 - row].values);
    return values.size();
  }

  Object put(int table, int key, int value) {
    Map<Integer, Integer> map = table(table);
    pair(key);
    value(value);
    return told(map.put(key, value));
  }

  Object remove(int table, int key) {
    Map<Integer, Integer> map = table(table);
    pair(key);
    return told(map.remove(key));
  }

  Object putIfAbsent(int table, int key, int value) {
    Map<Integer, Integer> map = table(table);
    pair(key);
    value(value);
    return told(map.putIfAbsent(key, value));
  }

  Object replace(int table, int key, int value) {
    Map<Integer, Integer> map = table(table);
    pair(key);
    value(value);
    return told(map.replace(key, value));
  }

  Object replaceIf(int table, int key, int old, int value) {
    Map<Integer, Integer> map = table(table);
    pair(key);
    value(old);
    value(value);
    return map.replace(key, old, value);
  }

  Object removePair(int table, int key, int value) {
    Map<Integer, Integer> map = table(table);
    pair(key);
    value(value);
    return map.remove(key, (Object) value);
  }

  private static void reckoned(int key, int rule, int number) {
    pair(key);
    among(rule, 0, 5);
    value(number);
  }

  Object computeIfAbsent(int table, int key, int rule, int number) {
    Map<Integer, Integer> map = table(table);
    reckoned(key, rule, number);
    return led(() -> told(map.computeIfAbsent(key, k -> rule(rule, number).apply(k, 0))));
  }

  Object computeIfPresent(int table, int key, int rule, int number) {
    Map<Integer, Integer> map = table(table);
    reckoned(key, rule, number);
    return led(() -> told(map.computeIfPresent(key, rule(rule, number))));
  }

  Object compute(int table, int key, int rule, int number) {
    Map<Integer, Integer> map = table(table);
    reckoned(key, rule, number);
    return led(() -> told(map.compute(key, rule(rule, number))));
  }

  Object merge(int table, int key, int value, int rule) {
    Map<Integer, Integer> map = table(table);
    reckoned(key, rule, value);
    return led(
        () -> told(map.merge(key, value, (before, with) -> rule(rule, with).apply(key, before))));
  }

  Object hearTable(int table, int hearer) {
    Map<Integer, Integer> map = table(table);
    Ear ear = ear(hearer);
    return led(
        () ->
            heardBy(
                ear,
                hears -> {
                  map.forEach((key, value) -> hears.accept(1000 * key + value));
                  return null;
                }));
  }

  Object replaceTable(int table, int rule, int number) {
    Map<Integer, Integer> map = table(table);
    argument(rule == 0 || rule == 1 || rule == 4 || rule == 5);
    value(number);
    return led(
        () -> {
          map.replaceAll(rule(rule, number));
          return map.size();
        });
  }

  Object clear(int table) {
    int before = table(table).size();
    tables.get(table).clear();
    return before;
  }

  Object hearSpan(int from, int to, int by, int hearer) {
    Ear ear = ear(hearer);
    return hearFrom(span(from, to, by), 0, ear);
  }

  Object hearSteps(int from, int to, int by, int ahead, int hearer) {
    Ear ear = ear(hearer);
    List<Integer> span = span(from, to, by);
    among(ahead, 0, span.size());
    return hearFrom(span, ahead, ear);
  }

  Object takeStep(int from, int to) {
    value(from);
    value(to);
    argument(from <= to);
    Iterator<Integer> walk =
        new Iterator<>() {
          @Override
          public boolean hasNext() {
            return true;
          }

          @Override
          public Integer next() {
            return from;
          }
        };
    return led(
        () -> {
          walk.next();
          try {
            walk.remove();
          } catch (UnsupportedOperationException canNot) {
            throw new Refusal();
          }
          return 0;
        });
  }

  Object stop(int hearer, int number) {
    Ear ear = ear(hearer);
    among(number, -1000, 99999);
    int before = ear.barred;
    ear.barred = number;
    return before;
  }

  Object forget(int hearer) {
    Ear ear = ear(hearer);
    int before = ear.many;
    ears[hearer] = new Ear();
    ears[hearer].barred = ear.barred;
    return before;
  }

  Object heard(int hearer, int what) {
    Ear ear = ear(hearer);
    among(what, 0, 3);
    return new int[] {ear.many, ear.sum, ear.last, ear.barred}[what];
  }

  Object heardText(int hearer) {
    return ear(hearer).text();
  }

  Object length(int row) {
    return row(row).size();
  }

  Object at(int row, int place) {
    CountedRow asked = row(row);
    index(place >= 0 && place < asked.size());
    return asked.get(place);
  }

  Object rowText(int row) {
    StringJoiner told = new StringJoiner(" ");
    row(row).values.forEach(value -> told.add(value.toString()));
    return told.toString();
  }

  Object isFixed(int row) {
    return row(row).isFixed;
  }

  Object counts(int row, int what) {
    CountedRow asked = row(row);
    among(what, 0, 4);
    return asked.counts[what];
  }

  Object shelfCounts(int what) {
    among(what, 0, 6);
    return shelf.counts[what];
  }

  Object forgetCounts() {
    int sum = 0;
    for (int[] counts : new int[][] {rows[0].counts, rows[1].counts, shelf.counts}) {
      for (int what = 0; what < counts.length; what++) {
        sum += counts[what];
        counts[what] = 0;
      }
    }
    return sum;
  }

  Object get(int table, int key) {
    Map<Integer, Integer> map = table(table);
    pair(key);
    return told(map.get(key));
  }

  Object getOr(int table, int key, int value) {
    Map<Integer, Integer> map = table(table);
    pair(key);
    value(value);
    return map.getOrDefault(key, value);
  }

  Object has(int table, int key) {
    Map<Integer, Integer> map = table(table);
    pair(key);
    return map.containsKey(key);
  }

  Object size(int table) {
    return table(table).size();
  }

  private Map<Integer, Integer> plain(int table) {
    Map<Integer, Integer> map = table(table);
    return map == shelf ? shelf.pairs : map;
  }

  Object text(int table) {
    StringJoiner told = new StringJoiner(" ");
    plain(table).forEach((key, value) -> told.add(key + "=" + value));
    return told.toString();
  }

  Object areLike(int table, int other) {
    return plain(table).equals(plain(other));
  }

  Object given(int rule, int key, int value, int number) {
    reckoned(key, rule, number);
    among(value, -1000, 999);
    try {
      return told(rule(rule, number).apply(key, value == -1000 ? null : value));
    } catch (Refusal refusal) {
      return -9;
    }
  }

  Object tested(int test, int value, int number) {
    among(test, 0, 5);
    value(value);
    value(number);
    try {
      return test(test, number).test(value) ? 1 : 0;
    } catch (Refusal refusal) {
      return -9;
    }
  }

  Object knock() {
    return ++knocks;
  }

  Object house(int what) {
    among(what, 0, 4);
    int pairs = tables.get(0).size() + tables.get(1).size() + tables.get(2).size();
    int heard = ears[0].many + ears[1].many;
    return new int[] {rows[0].size() + rows[1].size(), pairs, heard, refusals, knocks}[what];
  }

  Object isSound() {
    return true;
  }

  Object digest() {
    List<Integer> told = new ArrayList<>();
    for (int what = 0; what <= 4; what++) {
      told.add((Integer) house(what));
    }
    for (CountedRow row : rows) {
      told.add(row.size());
      told.addAll(row.values);
      told.add(row.isFixed ? 1 : 0);
      for (int count : row.counts) {
        told.add(count);
      }
    }
    for (int table = 0; table < 3; table++) {
      told.add(tables.get(table).size());
      plain(table)
          .forEach(
              (key, value) -> {
                told.add(key);
                told.add(value);
              });
    }
    for (int count : shelf.counts) {
      told.add(count);
    }
    for (Ear ear : ears) {
      told.addAll(List.of(ear.many, ear.sum, ear.last, ear.barred, ear.text().length()));
    }
    told.add(1);
    long d = 7774;
    for (int v : told) {
      d = d * 31 + v;
    }
    return d;
  }
}
