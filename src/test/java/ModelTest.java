import java.math.BigInteger;
import java.util.ArrayList;
import java.util.Arrays;
import java.util.HashMap;
import java.util.HashSet;
import java.util.List;
import java.util.Map;
import java.util.Random;
import java.util.Set;
import java.util.function.Consumer;
import java.util.function.ToLongFunction;

/** Random runs of calls, each answer against a second program written from the document with the whole library. */
public final class ModelTest {
  static final int BAD = -1, STATE = -2, FULL = -3, NONE = -4;

  static final class House {
    int height, room, leak, place = 50;
    boolean afloat;
  }

  static final class Thing {
    int kind, house, size, worth, where;

    int fills() {
      int father = (int) Math.ceil(size / 2.0);
      return List.of(size, 2 * size, father, father + 1).get(kind);
    }

    int costs() {
      return List.of(worth, worth, 3 * worth, 3 * worth + 1).get(kind);
    }
  }

  static final class World {
    List<House> houses = new ArrayList<>();
    List<Thing> things = new ArrayList<>();
    int[] rise = {4, 4, 4, 4, 4, 4, 4};
    int wind = 4, level, day, sorrow;

    World copy() {
      World w = new World();
      for (House a : houses) {
        House b = new House();
        b.height = a.height; b.room = a.room; b.leak = a.leak; b.place = a.place; b.afloat = a.afloat;
        w.houses.add(b);
      }
      for (Thing a : things) {
        Thing b = new Thing();
        b.kind = a.kind; b.house = a.house; b.size = a.size; b.worth = a.worth; b.where = a.where;
        w.things.add(b);
      }
      w.rise = rise.clone();
      w.wind = wind; w.level = level; w.day = day; w.sorrow = sorrow;
      return w;
    }

    int filled(int h) {
      return things.stream().filter(t -> t.house == h && t.where == 1).mapToInt(Thing::fills).sum();
    }

    void lose(Thing t) {
      t.where = 2;
      sorrow = Math.min(999, sorrow + t.costs());
    }

    World day(int rise, int wind) {
      level = Math.min(20, Math.max(0, level + (rise - 4)));
      for (int h = 0; h < houses.size(); h++) {
        House a = houses.get(h);
        if (level > a.height && !a.afloat) {
          for (Thing t : things) if (t.house == h && t.where == 0) lose(t);
          a.afloat = true;
        } else if (level <= a.height) {
          a.afloat = false;
        }
        if (a.afloat) {
          a.room = Math.max(0, a.room - a.leak);
          while (filled(h) > a.room) {
            Thing last = null;
            for (Thing t : things) if (t.house == h && t.where == 1) last = t;
            lose(last);
          }
          a.place = Math.min(99, Math.max(0, a.place + wind - 4));
        }
      }
      day++;
      return this;
    }

    World days(int n) {
      for (int k = 0; k < n; k++) day(rise[day % 7], wind);
      return this;
    }

    int stow(int i) {
      if (i < 0 || i >= things.size()) return BAD;
      Thing t = things.get(i);
      House a = houses.get(t.house);
      if (t.where != 0 || a.afloat) return STATE;
      if (filled(t.house) + t.fills() > a.room) return FULL;
      t.where = 1;
      return a.room - filled(t.house);
    }

    int afloatBits() {
      int bits = 0;
      for (int h = 0; h < houses.size(); h++) if (houses.get(h).afloat) bits += 1 << h;
      return bits;
    }

    int whereBits(int where) {
      int bits = 0;
      for (int i = 0; i < things.size(); i++) if (things.get(i).where == where) bits += 1 << i;
      return bits;
    }
  }

  static final class Fault extends RuntimeException {
    final int number, place;

    Fault(int number, int place) {
      this.number = number;
      this.place = place;
    }
  }

  /** A text read token by token. */
  static final class Parser {
    final String s;
    int at, from;
    World w = new World();
    Set<String> told = new HashSet<>();

    Parser(String s) {
      this.s = s;
    }

    String next() {
      while (at < s.length() && s.charAt(at) == ' ') at++;
      from = at;
      if (at == s.length()) return "";
      String pattern = "[a-z]";
      char c = s.charAt(at);
      if (c == ';') { at++; return ";"; }
      if (c >= '0' && c <= '9') pattern = "[0-9]";
      else if (!(c >= 'a' && c <= 'z')) throw new Fault(1, at);
      while (at < s.length() && s.substring(at, at + 1).matches(pattern)) at++;
      if (pattern.equals("[0-9]") && at - from > 2) throw new Fault(1, from);
      return s.substring(from, at);
    }

    int number(int least, int most) {
      String t = next();
      if (t.isEmpty() || !Character.isDigit(t.charAt(0))) throw new Fault(2, from);
      int v = Integer.parseInt(t);
      if (v < least || v > most) throw new Fault(3, from);
      return v;
    }

    int all() {
      int lines = 0;
      for (String name = next(); !name.isEmpty(); name = next()) {
        int kind = List.of("plain", "piano", "father", "self").indexOf(name);
        if (name.equals("house")) {
          if (w.houses.size() == 4) throw new Fault(5, from);
          House a = new House();
          a.height = number(0, 20);
          a.room = number(0, 40);
          a.leak = number(0, 3);
          w.houses.add(a);
        } else if (kind >= 0) {
          if (w.things.size() == 8) throw new Fault(5, from);
          Thing t = new Thing();
          t.kind = kind;
          t.house = number(0, 3);
          t.size = number(1, 9);
          t.worth = number(0, 9);
          w.things.add(t);
        } else if (name.equals("rise")) {
          int d = number(0, 6);
          if (!told.add("rise" + d)) throw new Fault(4, from);
          w.rise[d] = number(0, 8);
        } else if (name.equals("wind")) {
          if (!told.add(name)) throw new Fault(4, from);
          w.wind = number(0, 8);
        } else if (name.equals("level")) {
          if (!told.add(name)) throw new Fault(4, from);
          w.level = number(0, 20);
        } else {
          throw new Fault(2, from);
        }
        if (!next().equals(";")) throw new Fault(2, from);
        lines++;
      }
      for (Thing t : w.things) if (t.house >= w.houses.size()) throw new Fault(6, s.length());
      return lines;
    }
  }

  static final class Model {
    World w = new World();
    World[] images = new World[2];
    StringBuilder tape = new StringBuilder();
    int fault, torn;
    List<int[]> seen = new ArrayList<>();
    Object[] sheets = new Object[4];

    static boolean in(int v, int least, int most) {
      return least <= v && v <= most;
    }

    boolean h(int h) {
      return in(h, 0, w.houses.size() - 1);
    }

    boolean i(int i) {
      return in(i, 0, w.things.size() - 1);
    }

    int feed(int c) {
      if (!in(c, 0, 127)) return BAD;
      if (tape.length() == 160) return FULL;
      return tape.append((char) c).length();
    }

    int end(int n) {
      int had = tape.length();
      if (!in(n, 0, had)) return BAD;
      tape.setLength(n);
      return had;
    }

    int text() {
      Parser p = new Parser(tape.toString());
      tape.setLength(0);
      try {
        int lines = p.all();
        w = p.w;
        seen.clear();
        images = new World[2];
        fault = 0;
        return lines;
      } catch (Fault f) {
        fault = f.number;
        return -10 - f.place;
      }
    }

    int rule(int what) {
      if (!in(what, 0, 8)) return BAD;
      return new int[] {w.houses.size(), w.things.size(), w.day, w.level, w.sorrow, w.wind, w.afloatBits(),
          w.whereBits(1), w.whereBits(2)}[what];
    }

    int house(int h, int what) {
      if (!h(h) || !in(what, 0, 5)) return BAD;
      House a = w.houses.get(h);
      int bits = 0;
      for (Thing t : w.things) if (t.house == h) bits |= 1 << w.things.indexOf(t);
      return new int[] {a.height, a.room, a.leak, a.place, w.filled(h), bits}[what];
    }

    int thing(int i, int what) {
      if (!i(i) || !in(what, 0, 6)) return BAD;
      Thing t = w.things.get(i);
      return new int[] {t.kind, t.house, t.size, t.worth, t.where, t.fills(), t.costs()}[what];
    }

    int rise(int d) {
      return in(d, 0, 6) ? w.rise[d] : BAD;
    }

    int build(int h, int what, int v) {
      if (!h(h) || !in(what, 0, 3) || !in(v, 0, new int[] {20, 40, 3, 99}[what])) return BAD;
      int was = house(h, what);
      House a = w.houses.get(h);
      if (what == 0) a.height = v;
      if (what == 1) a.room = v;
      if (what == 2) a.leak = v;
      if (what == 3) a.place = v;
      return was;
    }

    int alter(int i, int what, int v) {
      if (!i(i) || !in(what, 0, 2) || !in(v, what == 1 ? 1 : 0, what == 0 ? 3 : 9)) return BAD;
      Thing t = w.things.get(i);
      int was = what == 0 ? t.kind : what == 1 ? t.size : t.worth;
      if (what == 0) t.kind = v;
      if (what == 1) t.size = v;
      if (what == 2) t.worth = v;
      return was;
    }

    int tide(int d, int v) {
      if (!in(d, 0, 6) || !in(v, 0, 8)) return BAD;
      int was = w.rise[d];
      w.rise[d] = v;
      return was;
    }

    int blow(int v) {
      if (!in(v, 0, 8)) return BAD;
      int was = w.wind;
      w.wind = v;
      return was;
    }

    int fetch(int i) {
      if (!i(i)) return BAD;
      Thing t = w.things.get(i);
      if (t.where != 1 || w.houses.get(t.house).afloat) return STATE;
      t.where = 0;
      return Math.max(0, w.houses.get(t.house).room - w.filled(t.house));
    }

    int days(int n) {
      if (!in(n, 0, 30)) return BAD;
      if (w.day + n > 999) return FULL;
      int was = w.sorrow;
      return w.days(n).sorrow - was;
    }

    int runs(int n, int what) {
      if (!in(n, 0, 60) || !in(what, 0, 3)) return BAD;
      World t = w.copy().days(n);
      int most = 0;
      for (int k = 0; k <= n; k++) most = Math.max(most, w.copy().days(k).level);
      return new int[] {t.sorrow - w.sorrow, t.whereBits(2), t.afloatBits(), most}[what];
    }

    int ahead(int h, int n, int what) {
      if (!h(h) || !in(n, 0, 60) || !in(what, 0, 1)) return BAD;
      House a = w.copy().days(n).houses.get(h);
      return what == 0 ? a.place : a.room;
    }

    int lost(int i) {
      if (!i(i)) return BAD;
      for (int n = 0; n <= 60; n++) if (w.copy().days(n).things.get(i).where == 2) return n;
      return NONE;
    }

    int meet(int h, int g) {
      if (!h(h) || !h(g) || h == g) return BAD;
      for (int n = 0; n <= 60; n++) {
        World t = w.copy().days(n);
        House a = t.houses.get(h), b = t.houses.get(g);
        if (a.afloat && b.afloat && a.place == b.place) return n;
      }
      return NONE;
    }

    int pack(int h, int what) {
      if (!h(h) || !in(what, 0, 2)) return BAD;
      int best = 0, bestCost = -1, bestFill = 0;
      sets:
      for (int set = 0; set < 1 << w.things.size(); set++) {
        int fill = 0, cost = 0;
        for (int i = 0; i < w.things.size(); i++) {
          if ((set & 1 << i) == 0) continue;
          Thing t = w.things.get(i);
          if (t.house != h || t.where == 2) continue sets;
          fill += t.fills();
          cost += t.costs();
        }
        if (fill <= w.houses.get(h).room && cost > bestCost) { best = set; bestCost = cost; bestFill = fill; }
      }
      return new int[] {best, bestCost, bestFill}[what];
    }

    boolean dry(World t, int h, int n) {
      for (int d = 0; d < n; d++) {
        t.days(1);
        for (int i = 0; i < t.things.size(); i++)
          if (t.things.get(i).house == h && t.things.get(i).where == 2 && w.things.get(i).where != 2) return false;
      }
      return true;
    }

    int need(int h, int n) {
      if (!h(h) || !in(n, 0, 60)) return BAD;
      for (int r = 0; r <= 40; r++) {
        World t = w.copy();
        t.houses.get(h).room = r;
        for (Thing a : t.things) if (a.house == h && a.where == 0) a.where = 1;
        if (dry(t, h, n)) return r;
      }
      return NONE;
    }

    int high(int h, int n) {
      if (!h(h) || !in(n, 0, 60)) return BAD;
      for (int r = 0; r <= 20; r++) {
        World t = w.copy();
        t.houses.get(h).height = r;
        if (dry(t, h, n)) return r;
      }
      return NONE;
    }

    int sorrow(int n, Consumer<World> change) {
      World t = w.copy();
      change.accept(t);
      return t.days(n).sorrow;
    }

    int leak(int h, int n) {
      if (!h(h) || !in(n, 0, 60)) return BAD;
      int best = NONE;
      for (int k = 0; k <= 3; k++) {
        int v = k;
        if (sorrow(n, t -> t.houses.get(h).leak = v) <= sorrow(n, t -> { })) best = v;
      }
      return best;
    }

    int best(Map<Integer, Integer> sorrows, int below, int what) {
      int best = NONE, least = below;
      for (int key = 0; key < 100; key++)
        if (sorrows.getOrDefault(key, 9999) < least) { best = key; least = sorrows.get(key); }
      return best == NONE ? NONE : what == 0 ? best : least - w.sorrow;
    }

    int swap(int n, int what) {
      if (!in(n, 0, 60) || !in(what, 0, 1)) return BAD;
      Map<Integer, Integer> sorrows = new HashMap<>();
      for (int i = 0; i < w.things.size(); i++) {
        for (int j = 0; j < w.things.size(); j++) {
          Thing a = w.things.get(i), b = w.things.get(j);
          if (i >= j || a.where == 2 || b.where == 2 || a.house == b.house) continue;
          int p = i, q = j;
          sorrows.put(10 * i + j, sorrow(n, t -> {
            t.things.get(p).house = b.house;
            t.things.get(q).house = a.house;
          }));
        }
      }
      return best(sorrows, sorrow(n, t -> { }), what);
    }

    int save(int n, int what) {
      if (!in(n, 0, 60) || !in(what, 0, 1)) return BAD;
      Map<Integer, Integer> sorrows = new HashMap<>();
      for (int i = 0; i < w.things.size(); i++) {
        int p = i;
        if (w.things.get(i).where == 0 && w.copy().stow(i) >= 0) sorrows.put(i, sorrow(n, t -> t.stow(p)));
      }
      return best(sorrows, sorrow(n, t -> { }), what);
    }

    int kind(int i, int n, int what) {
      if (!i(i) || !in(n, 0, 60) || !in(what, 0, 1)) return BAD;
      Map<Integer, Integer> sorrows = new HashMap<>();
      for (int k = 0; k < 4; k++) {
        int v = k;
        sorrows.put(k, sorrow(n, t -> t.things.get(i).kind = v));
      }
      return best(sorrows, 9999, what);
    }

    BigInteger storms(World t, int v, int n, ToLongFunction<World> value) {
      if (n == 0) return BigInteger.valueOf(value.applyAsLong(t));
      World storm = t.copy(), calm = t.copy();
      storm.day(t.rise[t.day % 7] + 2, t.wind);
      calm.day(t.rise[t.day % 7], t.wind);
      return storms(storm, v, n - 1, value).multiply(BigInteger.valueOf(v))
          .add(storms(calm, v, n - 1, value).multiply(BigInteger.valueOf(10 - v)));
    }

    long part(BigInteger top, int n, int what) {
      BigInteger all = BigInteger.TEN.pow(n);
      BigInteger common = top.gcd(all);
      return (what == 0 ? top : all).divide(common).longValueExact();
    }

    long luck(int v, int i, int n, int what) {
      if (!in(v, 0, 10) || !i(i) || !in(n, 0, 8) || !in(what, 0, 1)) return BAD;
      return part(storms(w, v, n, t -> t.things.get(i).where == 2 ? 0 : 1), n, what);
    }

    long mean(int v, int n, int what) {
      if (!in(v, 0, 10) || !in(n, 0, 8) || !in(what, 0, 1)) return BAD;
      return part(storms(w, v, n, t -> t.sorrow - w.sorrow), n, what);
    }

    int see(int n, int v) {
      if (!in(n, 0, 20) || !in(v, 0, 999)) return BAD;
      if (seen.size() == 6) return FULL;
      seen.add(new int[] {n, v});
      return seen.size();
    }

    int forget(int n) {
      int were = seen.size();
      if (!in(n, 0, were)) return BAD;
      seen.subList(n, were).clear();
      return were;
    }

    boolean asSeen(Consumer<World> change) {
      return seen.stream().allMatch(a -> sorrow(a[0], change) == a[1]);
    }

    int kinds(int i) {
      if (!i(i)) return BAD;
      int bits = 0;
      for (int k = 0; k < 4; k++) {
        int v = k;
        if (asSeen(t -> t.things.get(i).kind = v)) bits |= 1 << k;
      }
      return bits;
    }

    int leaks(int h) {
      if (!h(h)) return BAD;
      int bits = 0;
      for (int k = 0; k < 4; k++) {
        int v = k;
        if (asSeen(t -> t.houses.get(h).leak = v)) bits |= 1 << k;
      }
      return bits;
    }

    int rooms(int h) {
      if (!h(h)) return BAD;
      int bits = 0;
      for (int k = 0; k <= 30; k++) {
        int v = k;
        if (asSeen(t -> t.houses.get(h).room = v)) bits |= 1 << k;
      }
      return bits;
    }

    int ask(int h, int what) {
      if (!h(h) || !in(what, 0, 1)) return BAD;
      int open = rooms(h);
      int best = NONE, fewest = Integer.bitCount(open);
      for (int n = 0; n <= 20; n++) {
        Map<Integer, Integer> tally = new HashMap<>();
        for (int k = 0; k <= 30; k++) {
          int v = k;
          if ((open >> k & 1) == 1) tally.merge(sorrow(n, t -> t.houses.get(h).room = v), 1, Integer::sum);
        }
        int worst = tally.values().stream().mapToInt(a -> a).max().orElse(0);
        if (worst < fewest) { best = n; fewest = worst; }
      }
      return best == NONE ? NONE : what == 0 ? best : fewest;
    }

    int drift(int seed, int n, int what) {
      if (!in(n, 1, 60) || !in(what, 0, 1)) return BAD;
      if (w.houses.isEmpty()) return STATE;
      World t = w.copy();
      BigInteger s = BigInteger.valueOf(seed);
      for (int d = 0; d < n; d++) {
        s = s.multiply(BigInteger.valueOf(1103515245)).add(BigInteger.valueOf(12345));
        int got = s.shiftRight(16).mod(BigInteger.valueOf(32768)).intValueExact();
        t.day(got % 9, (got / 16) % 9);
      }
      return what == 0 ? t.sorrow - w.sorrow : t.afloatBits();
    }

    int keep(int k) {
      if (!in(k, 0, 1)) return BAD;
      int was = images[k] == null ? 0 : 1;
      images[k] = w.copy();
      return was;
    }

    int back(int k) {
      if (!in(k, 0, 1)) return BAD;
      if (images[k] == null) return STATE;
      w = images[k].copy();
      return w.day;
    }

    int sheet(int k, int lane, int n) {
      if (!in(k, 0, 3) || !in(lane, 0, 2) || n > 40) return BAD;
      if (n < 0) return -14;
      sheets[k] = lane == 0 ? new byte[n] : lane == 1 ? (Object) new short[n] : new int[n];
      return 1;
    }

    int lay(int k, int i, int v) {
      if (!in(k, 0, 3)) return BAD;
      try {
        if (sheets[k] instanceof byte[] a) a[i] = (byte) v;
        else if (sheets[k] instanceof short[] a) a[i] = (short) v;
        else ((int[]) sheets[k])[i] = v;
        return 1;
      } catch (NullPointerException e) {
        return -11;
      } catch (ArrayIndexOutOfBoundsException e) {
        return -12;
      }
    }

    int read(int k, int lane, int f, int n) {
      if (!in(k, 0, 3) || !in(lane, 0, 2) || !in(n, 0, 40)) return BAD;
      World t = w.copy();
      int came = 0, found = 0;
      try {
        for (; came < n; came++) {
          int i = lane == 0 ? ((byte[]) sheets[k])[f + came]
              : lane == 1 ? ((short[]) sheets[k])[f + came] : ((int[]) sheets[k])[f + came];
          if (t.stow(i) < 0) return -20 - came;
        }
      } catch (NullPointerException e) {
        found = 1;
      } catch (ArrayIndexOutOfBoundsException e) {
        found = 2;
      } catch (ClassCastException e) {
        found = 3;
      }
      torn = found;
      w = t;
      return came;
    }

    int count(int what) {
      switch (what) {
        case 0: return seen.size();
        case 1: return (images[0] == null ? 0 : 1) + (images[1] == null ? 0 : 1);
        case 2: return tape.length();
        case 3: return sheets[0] == null ? NONE : java.lang.reflect.Array.getLength(sheets[0]);
        case 4: return w.houses.stream().mapToInt(a -> a.room).sum();
        case 5: return w.things.stream().mapToInt(a -> a.worth).sum();
        default: return BAD;
      }
    }
  }

  static int wrong = 0;
  static int asked = 0;
  static Map<String, Set<Long>> answers = new HashMap<>();
  static Random random = new Random(20261118);
  static List<String> log = new ArrayList<>();

  static void same(String name, int[] args, long got, long want) {
    asked++;
    answers.computeIfAbsent(name, k -> new HashSet<>()).add(want);
    log.add(name + Arrays.toString(args) + " = " + want);
    if (got != want) {
      if (wrong++ < 20) System.out.println(name + Arrays.toString(args) + " answered " + got + ", due is " + want + "\n  behind " + log);
    }
  }

  static int upTo(int most) {
    return random.nextInt(most + 1);
  }

  /** A number mostly within its bounds, now and then on an edge, just beyond it, or far from it. */
  static int arg(int least, int most) {
    switch (upTo(39)) {
      case 0: return least - 1;
      case 1: return most + 1;
      case 2: return random.nextInt();
      case 3: return least;
      case 4: return most;
      default: return least + upTo(Math.max(0, most - least));
    }
  }

  static String line(int houses) {
    switch (upTo(9)) {
      case 0: return "wind " + upTo(8) + ";";
      case 1: return "level " + upTo(6) + ";";
      case 2: case 3: case 4: return "rise " + upTo(6) + " " + upTo(8) + ";";
      default:
        return List.of("plain", "piano", "father", "self").get(upTo(3)) + " " + upTo(Math.max(0, houses - 1)) + " "
            + (1 + upTo(8)) + " " + upTo(9) + ";";
    }
  }

  static String randomText() {
    StringBuilder s = new StringBuilder();
    int houses = upTo(20) == 0 ? upTo(5) : 1 + upTo(2);
    for (int k = 0; k < houses; k++) s.append("house " + upTo(9) + " " + upTo(40) + " " + upTo(upTo(3)) + ";");
    Set<String> told = new HashSet<>();
    int lines = upTo(13);
    for (int k = 0; k < lines; k++) {
      String line = line(houses);
      boolean again = !told.add(line.startsWith("rise") ? line.substring(0, 6) : line.substring(0, 4))
          && line.matches("(rise|wind|level).*");
      if (!again || upTo(30) == 0) s.append(line);
    }
    if (upTo(9) == 0 && s.length() > 0) {
      String signs = " ;0123456789azAZ~\0housewindlevel";
      for (int k = 0; k <= upTo(2); k++) s.setCharAt(upTo(s.length() - 1), signs.charAt(upTo(signs.length() - 1)));
    }
    if (upTo(9) == 0) s.insert(upTo(s.length()), " ".repeat(upTo(3)));
    if (upTo(19) == 0) s.setLength(upTo(s.length()));
    return s.toString();
  }

  static void tell(ArkTerrace x, Model m) {
    String s = randomText();
    for (int k = 0; k < s.length(); k++) {
      int got = x.feed(s.charAt(k)), want = m.feed(s.charAt(k));
      if (got != want) same("feed", new int[] {s.charAt(k)}, got, want);
    }
    log.add("feed " + s);
    same("text", new int[0], x.text(), m.text());
    same("fault", new int[0], x.fault(), m.fault);
  }

  static void look(ArkTerrace x, Model m) {
    for (int what = 0; what < 9; what++) same("rule", new int[] {what}, x.rule(what), m.rule(what));
    for (int h = 0; h < 4; h++)
      for (int what = 0; what < 6; what++) same("house", new int[] {h, what}, x.house(h, what), m.house(h, what));
    for (int i = 0; i < 8; i++)
      for (int what = 0; what < 7; what++) same("thing", new int[] {i, what}, x.thing(i, what), m.thing(i, what));
    for (int d = 0; d < 7; d++) same("rise", new int[] {d}, x.rise(d), m.rise(d));
    for (int what = 0; what < 6; what++) same("count", new int[] {what}, x.count(what), m.count(what));
  }

  static void change(ArkTerrace x, Model m, int which) {
    int h = arg(0, m.w.houses.size() - 1), i = arg(0, m.w.things.size() - 1), what, v, k, n;
    switch (which) {
      case 0: v = arg(0, 127); same("feed", new int[] {v}, x.feed(v), m.feed(v)); break;
      case 1: n = arg(0, m.tape.length()); same("end", new int[] {n}, x.end(n), m.end(n)); break;
      case 2: what = arg(0, 3); v = arg(0, new int[] {20, 40, 3, 99}[Math.floorMod(what, 4)]);
        same("build", new int[] {h, what, v}, x.build(h, what, v), m.build(h, what, v)); break;
      case 3: what = arg(0, 2); v = what == 0 ? arg(0, 3) : arg(what == 1 ? 1 : 0, 9);
        same("alter", new int[] {i, what, v}, x.alter(i, what, v), m.alter(i, what, v)); break;
      case 4: k = arg(0, 6); v = arg(0, 8); same("tide", new int[] {k, v}, x.tide(k, v), m.tide(k, v)); break;
      case 5: v = arg(0, 8); same("blow", new int[] {v}, x.blow(v), m.blow(v)); break;
      case 6: case 7: case 8: same("stow", new int[] {i}, x.stow(i), m.w.stow(i)); break;
      case 9: same("fetch", new int[] {i}, x.fetch(i), m.fetch(i)); break;
      case 10: n = upTo(3) == 0 ? arg(0, 30) : arg(0, 3); same("days", new int[] {n}, x.days(n), m.days(n)); break;
      case 11: n = arg(0, 20);
        v = upTo(3) == 0 ? arg(0, 999) : m.w.copy().days(Model.in(n, 0, 20) ? n : 0).sorrow + (upTo(3) == 0 ? upTo(9) : 0);
        same("see", new int[] {n, v}, x.see(n, v), m.see(n, v)); break;
      case 12: n = arg(0, m.seen.size()); same("forget", new int[] {n}, x.forget(n), m.forget(n)); break;
      case 13: k = arg(0, 1); same("keep", new int[] {k}, x.keep(k), m.keep(k)); break;
      case 14: k = arg(0, 1); same("back", new int[] {k}, x.back(k), m.back(k)); break;
      case 15: k = arg(0, 3); v = arg(0, 2); n = upTo(1) == 0 ? arg(0, 5) : arg(0, 40);
        same("sheet", new int[] {k, v, n}, x.sheet(k, v, n), m.sheet(k, v, n)); break;
      case 16: case 17: k = arg(0, 3); n = upTo(3) == 0 ? arg(0, 39) : arg(0, 4);
        v = upTo(4) == 0 ? 256 * upTo(300) + arg(0, 7) : arg(0, 7);
        same("lay", new int[] {k, n, v}, x.lay(k, n, v), m.lay(k, n, v)); break;
      case 18: k = arg(0, 3); v = arg(0, 2); int f = arg(0, 4); n = arg(0, upTo(3) == 0 ? 40 : 3);
        if (upTo(1) == 0 && Model.in(k, 0, 3) && m.sheets[k] == null && Model.in(v, 0, 2)) {
          same("sheet", new int[] {k, v, 8}, x.sheet(k, v, 8), m.sheet(k, v, 8));
          for (int c = 0; c < 8; c++) same("lay", new int[] {k, c, 7 - c}, x.lay(k, c, 7 - c), m.lay(k, c, 7 - c));
        }
        same("read", new int[] {k, v, f, n}, x.read(k, v, f, n), m.read(k, v, f, n));
        same("torn", new int[0], x.torn(), m.torn); break;
      default: what = arg(0, 5); same("count", new int[] {what}, x.count(what), m.count(what)); break;
    }
  }

  static void ask(ArkTerrace x, Model m, int which) {
    int h = arg(0, m.w.houses.size() - 1), i = arg(0, m.w.things.size() - 1), n = arg(0, upTo(1) == 0 ? 60 : 12);
    int what = arg(0, 1), g = arg(0, m.w.houses.size() - 1), v = arg(0, 10), few = arg(0, 8), three = arg(0, 3);
    int seed = random.nextInt(), drifts = arg(1, 60), two = arg(0, 2);
    switch (which) {
      case 0: same("runs", new int[] {n, three}, x.runs(n, three), m.runs(n, three)); break;
      case 1: same("ahead", new int[] {h, n, what}, x.ahead(h, n, what), m.ahead(h, n, what)); break;
      case 2: same("lost", new int[] {i}, x.lost(i), m.lost(i)); break;
      case 3: same("meet", new int[] {h, g}, x.meet(h, g), m.meet(h, g)); break;
      case 4: same("pack", new int[] {h, two}, x.pack(h, two), m.pack(h, two)); break;
      case 5: same("need", new int[] {h, n}, x.need(h, n), m.need(h, n)); break;
      case 6: same("high", new int[] {h, n}, x.high(h, n), m.high(h, n)); break;
      case 7: same("leak", new int[] {h, n}, x.leak(h, n), m.leak(h, n)); break;
      case 8: same("swap", new int[] {n, what}, x.swap(n, what), m.swap(n, what)); break;
      case 9: same("save", new int[] {n, what}, x.save(n, what), m.save(n, what)); break;
      case 10: same("kind", new int[] {i, n, what}, x.kind(i, n, what), m.kind(i, n, what)); break;
      case 11: same("luck", new int[] {v, i, few, what}, x.luck(v, i, few, what), m.luck(v, i, few, what)); break;
      case 12: same("mean", new int[] {v, few, what}, x.mean(v, few, what), m.mean(v, few, what)); break;
      case 13: same("kinds", new int[] {i}, x.kinds(i), m.kinds(i)); break;
      case 14: same("leaks", new int[] {h}, x.leaks(h), m.leaks(h)); break;
      case 15: same("rooms", new int[] {h}, x.rooms(h), m.rooms(h)); break;
      case 16: same("ask", new int[] {h, what}, x.ask(h, what), m.ask(h, what)); break;
      default: same("drift", new int[] {seed, drifts, what}, x.drift(seed, drifts, what), m.drift(seed, drifts, what)); break;
    }
  }

  public static void main(String[] args) {
    int runs = args.length > 0 ? Integer.parseInt(args[0]) : 1200;
    for (int run = 0; run < runs; run++) {
      log.clear();
      ArkTerrace x = new ArkTerrace();
      Model m = new Model();
      if (upTo(9) != 0) tell(x, m);
      for (int k = 0; k < 60; k++) {
        if (upTo(1) == 0) change(x, m, upTo(19));
        else ask(x, m, upTo(17));
        if (upTo(80) == 0) tell(x, m);
      }
      look(x, m);
    }
    System.out.println(asked + " answers, " + wrong + " not as due");
    if (args.length > 1) answers.forEach((name, set) -> System.out.println(name + ": " + set.size() + " answers "
        + (set.size() < 30 ? set : "")));
    if (wrong != 0) System.exit(1);
  }
}
