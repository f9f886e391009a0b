import java.util.ArrayList;
import java.util.HashMap;
import java.util.HashSet;
import java.util.List;
import java.util.Map;
import java.util.Set;
import java.util.TreeMap;

/** The document once more, in its plainest and slowest form; ModelTest holds HornMaze against it. */
final class Model {
  static final int NONE = -1;

  private static final class Refused extends RuntimeException {
    final int why;

    Refused(int why) {
      super(null, null, false, false);
      this.why = why;
    }
  }

  /** What an image keeps. */
  private static final class State {
    List<Integer> colours = new ArrayList<>();
    List<int[]> words = new ArrayList<>();
    Map<List<Integer>, Integer> leads = new HashMap<>();
    Map<List<Integer>, Integer> hears = new HashMap<>();
    int doors = 0;
    List<LawModel> laws = new ArrayList<>();
    int force = NONE;
    List<Integer> row = new ArrayList<>();
    TreeMap<Integer, Integer> store = new TreeMap<>();
    List<int[]> walkers = new ArrayList<>();

    State copy() {
      State other = new State();
      other.colours.addAll(colours);
      other.words.addAll(words);
      other.leads.putAll(leads);
      other.hears.putAll(hears);
      other.doors = doors;
      other.laws.addAll(laws);
      other.force = force;
      other.row.addAll(row);
      other.store.putAll(store);
      for (int[] walker : walkers) {
        other.walkers.add(walker.clone());
      }
      return other;
    }
  }

  record Stand(int set, int doors) {
  }

  private State now = new State();
  private final State[] images = new State[2];
  private List<Byte> tape = new ArrayList<>();
  private int fault = NONE;
  private int stray = 0;
  private int status = 0;
  private final Map<Integer, Integer> refused = new HashMap<>();
  private List<Integer> hornAt = null;
  private int hornDoors = 0;

  private static void check(boolean good, int why) {
    if (!good) {
      throw new Refused(why);
    }
  }

  private interface Call {
    int make();
  }

  private int call(Call call) {
    try {
      int answer = call.make();
      status = 0;
      return answer;
    } catch (Refused why) {
      status = why.why;
      refused.merge(why.why, 1, Integer::sum);
      return why.why;
    }
  }

  private boolean isPlace(int p) {
    return p >= 0 && p < now.colours.size();
  }

  private boolean isWord(int w) {
    return w >= 0 && w < now.words.size();
  }

  private static boolean in(int n, int low, int high) {
    return n >= low && n <= high;
  }

  int place(int colour) {
    return call(() -> {
      check(in(colour, 0, 3), -1);
      check(now.colours.size() < 12, -5);
      now.colours.add(colour);
      return now.colours.size() - 1;
    });
  }

  int paint(int place, int colour) {
    return call(() -> {
      check(in(colour, 0, 3), -1);
      check(isPlace(place), -2);
      return now.colours.set(place, colour);
    });
  }

  int word(int opens, int shuts) {
    return call(() -> {
      check(in(opens, 0, 7) && in(shuts, 0, 7), -1);
      check(now.words.size() < 8, -5);
      now.words.add(new int[] {opens, shuts});
      return now.words.size() - 1;
    });
  }

  int lead(int word, int place, int to) {
    return call(() -> {
      check(isWord(word) && isPlace(place) && isPlace(to), -2);
      Integer was = now.leads.put(List.of(word, place), to);
      return was == null ? place : was;
    });
  }

  int hear(int kind, int word, int as) {
    return call(() -> {
      check(in(kind, 0, 1), -1);
      check(isWord(word) && (as == NONE || isWord(as)), -2);
      Integer was = now.hears.put(List.of(kind, word), as);
      return was == null ? word : was;
    });
  }

  int doors(int open) {
    return call(() -> {
      check(in(open, 0, 7), -1);
      int was = now.doors;
      now.doors = open;
      return was;
    });
  }

  int feed(int a, int b, int c, int d, int e) {
    if (tape.size() + 20 > 400) {
      return NONE;
    }
    for (int number : new int[] {a, b, c, d, e}) {
      for (byte next : java.nio.ByteBuffer.allocate(4).putInt(number).array()) {
        tape.add(next);
      }
    }
    return tape.size();
  }

  int end(int n) {
    if (!in(n, 0, tape.size())) {
      return NONE;
    }
    tape = new ArrayList<>(tape.subList(0, n));
    return n;
  }

  int row(int word) {
    return call(() -> {
      check(isWord(word), -2);
      check(!tape.isEmpty(), -6);
      int came = 0;
      stray = 0;
      for (int i = 0; i < tape.size(); i++) {
        int to = tape.get(i) & 255;
        if (isPlace(i) && isPlace(to)) {
          now.leads.put(List.of(word, i), to);
          came++;
        } else {
          stray++;
        }
      }
      tape.clear();
      return came;
    });
  }

  int stray() {
    return stray;
  }

  int law() {
    return call(() -> {
      byte[] bytes = new byte[tape.size()];
      for (int i = 0; i < bytes.length; i++) {
        bytes[i] = tape.get(i);
      }
      tape.clear();
      check(now.laws.size() < 6, -5);
      try {
        now.laws.add(new LawModel(bytes));
        fault = NONE;
      } catch (LawModel.Fault found) {
        fault = found.at;
        throw new Refused(-6);
      }
      return now.laws.size() - 1;
    });
  }

  int fault() {
    return fault;
  }

  int force(int law) {
    return call(() -> {
      check(law == NONE || in(law, 0, now.laws.size() - 1), -2);
      int was = now.force;
      now.force = law;
      return was;
    });
  }

  private Map<String, Integer> facts(int word, int place, int kind, int colour, int doors) {
    return Map.of("word", word, "place", place, "kind", kind, "colour", colour,
        "north", doors % 2, "east", doors / 2 % 2, "west", doors / 4);
  }

  private int step(int kind, int word, int place, int doors) {
    int heard = now.hears.getOrDefault(List.of(kind, word), word);
    if (heard == NONE) {
      return place;
    }
    if (now.force != NONE) {
      Long told = now.laws.get(now.force).leads(facts(heard, place, kind, now.colours.get(place), doors));
      if (told != null && told >= 0 && told < now.colours.size()) {
        return told.intValue();
      }
    }
    return now.leads.getOrDefault(List.of(heard, place), place);
  }

  private boolean bars(int word, int doors) {
    return now.force != NONE && now.laws.get(now.force).bars(facts(word, 0, 0, 0, doors));
  }

  private int doorsBehind(int word, int doors) {
    return (doors | now.words.get(word)[0]) & ~now.words.get(word)[1];
  }

  int goes(int kind, int word, int place, int doors) {
    return in(kind, 0, 1) && isWord(word) && isPlace(place) && in(doors, 0, 7)
        ? step(kind, word, place, doors) : NONE;
  }

  int barred(int word, int doors) {
    return isWord(word) && in(doors, 0, 7) ? bars(word, doors) ? 1 : 0 : NONE;
  }

  int call(int word) {
    return call(() -> {
      check(isWord(word), -2);
      check(now.row.size() < 60, -5);
      now.row.add(word);
      return now.row.size();
    });
  }

  int tear() {
    int had = now.row.size();
    now.row.clear();
    return had;
  }

  private boolean isSet(int mix, int set) {
    int places = now.colours.size();
    if (mix == 3) {
      if (places > 6 || !in(set, 0, 4095)) {
        return false;
      }
      for (int bit = 0; bit < 12; bit++) {
        if ((set >> bit & 1) == 1 && bit % 6 >= places) {
          return false;
        }
      }
      return true;
    }
    return in(mix, 1, 2) && set >= 0 && set < 1 << places;
  }

  private Map<List<Integer>, Stand> known = new HashMap<>();

  /** null if the word is barred. */
  private Stand behind(int mix, Stand stand, int word) {
    if (bars(word, stand.doors)) {
      return null;
    }
    int image = 0;
    for (int bit = 0; bit < 12; bit++) {
      if ((stand.set >> bit & 1) == 1) {
        int kind = mix == 3 ? bit / 6 : mix - 1;
        int place = mix == 3 ? bit % 6 : bit;
        image |= 1 << (step(kind, word, place, stand.doors) + (mix == 3 ? 6 * kind : 0));
      }
    }
    return new Stand(image, doorsBehind(word, stand.doors));
  }

  /** As behind, but remembered within one call. */
  private Stand quick(int mix, Stand stand, int word) {
    List<Integer> key = List.of(mix, stand.set, stand.doors, word);
    if (!known.containsKey(key)) {
      known.put(key, behind(mix, stand, word));
    }
    return known.get(key);
  }

  private Stand afterRow(int mix, Stand from, int n) {
    if (!in(n, 0, now.row.size())) {
      return null;
    }
    Stand stand = from;
    for (int word : now.row.subList(0, n)) {
      stand = behind(mix, stand, word);
      if (stand == null) {
        return null;
      }
    }
    return stand;
  }

  int after(int mix, int set, int n) {
    Stand stand = isSet(mix, set) ? afterRow(mix, new Stand(set, now.doors), n) : null;
    return stand == null ? NONE : stand.set;
  }

  int open(int n) {
    Stand stand = afterRow(1, new Stand(0, now.doors), n);
    return stand == null ? NONE : stand.doors;
  }

  private boolean together(int mix, int set, int to) {
    Set<Integer> places = new HashSet<>();
    for (int bit = 0; bit < 12; bit++) {
      if ((set >> bit & 1) == 1) {
        places.add(mix == 3 ? bit % 6 : bit);
      }
    }
    return places.size() == 1 && (to == NONE || places.contains(to));
  }

  /** Layer by layer the stands that rows of so many words come to, with how many rows. */
  private List<Map<Stand, Double>> layers(int mix, int set, int to, int skip) {
    known.clear();
    List<Map<Stand, Double>> layers = new ArrayList<>();
    Map<Stand, Double> layer = new HashMap<>();
    layer.put(new Stand(set, now.doors), 1.0);
    Set<Stand> seen = new HashSet<>(layer.keySet());
    while (true) {
      layers.add(layer);
      for (Stand stand : layer.keySet()) {
        if (together(mix, stand.set, to)) {
          return layers;
        }
      }
      Map<Stand, Double> following = new HashMap<>();
      for (Map.Entry<Stand, Double> entry : layer.entrySet()) {
        for (int word = 0; word < now.words.size(); word++) {
          Stand stand = word == skip ? null : quick(mix, entry.getKey(), word);
          if (stand != null && !seen.contains(stand)) {
            following.merge(stand, entry.getValue(), Double::sum);
          }
        }
      }
      if (following.isEmpty()) {
        return null;
      }
      seen.addAll(following.keySet());
      layer = following;
    }
  }

  int fewest(int mix, int set, int to) {
    if (!isSet(mix, set) || to != NONE && !isPlace(to)) {
      return NONE;
    }
    List<Map<Stand, Double>> layers = layers(mix, set, to, NONE);
    return layers == null ? NONE : layers.size() - 1;
  }

  int ways(int mix, int set, int to) {
    if (!isSet(mix, set) || to != NONE && !isPlace(to)) {
      return NONE;
    }
    List<Map<Stand, Double>> layers = layers(mix, set, to, NONE);
    if (layers == null) {
      return 0;
    }
    double ways = 0;
    for (Map.Entry<Stand, Double> entry : layers.get(layers.size() - 1).entrySet()) {
      ways += together(mix, entry.getKey().set, to) ? entry.getValue() : 0;
    }
    return (int) Math.min(ways, 1e9);
  }

  /** The first row, from the sets of stands out of which the aim is come to by the words left. */
  private List<Integer> first(int mix, int set, int to) {
    List<Map<Stand, Double>> layers = layers(mix, set, to, NONE);
    if (layers == null) {
      return List.of();
    }
    List<Set<Stand>> good = new ArrayList<>();
    for (int i = layers.size() - 1; i >= 0; i--) {
      Set<Stand> here = new HashSet<>();
      for (Stand stand : layers.get(i).keySet()) {
        if (i == layers.size() - 1 ? together(mix, stand.set, to) : leadsInto(mix, stand, good.get(0)) != NONE) {
          here.add(stand);
        }
      }
      good.add(0, here);
    }
    List<Integer> row = new ArrayList<>();
    Stand stand = new Stand(set, now.doors);
    for (int i = 1; i < layers.size(); i++) {
      int word = leadsInto(mix, stand, good.get(i));
      row.add(word);
      stand = quick(mix, stand, word);
    }
    return row;
  }

  private int leadsInto(int mix, Stand stand, Set<Stand> good) {
    for (int word = 0; word < now.words.size(); word++) {
      Stand behind = quick(mix, stand, word);
      if (behind != null && good.contains(behind)) {
        return word;
      }
    }
    return NONE;
  }

  int spell(int mix, int set, int to, int i) {
    if (!isSet(mix, set) || to != NONE && !isPlace(to)) {
      return NONE;
    }
    List<Integer> row = first(mix, set, to);
    return in(i, 0, row.size() - 1) ? row.get(i) : NONE;
  }

  int without(int mix, int set, int word) {
    if (!isSet(mix, set) || !isWord(word)) {
      return NONE;
    }
    List<Map<Stand, Double>> layers = layers(mix, set, NONE, word);
    return layers == null ? NONE : layers.size() - 1;
  }

  int spare(int mix, int set) {
    int least = fewest(mix, set, NONE);
    for (int word = 0; word < now.words.size() && least != NONE; word++) {
      if (without(mix, set, word) == least) {
        return word;
      }
    }
    return NONE;
  }

  int cycle(int mix, int set, int what) {
    if (!isSet(mix, set) || !in(what, 0, 1) || now.row.isEmpty()) {
      return NONE;
    }
    List<Stand> laps = new ArrayList<>();
    Stand stand = new Stand(set, now.doors);
    while (!laps.contains(stand)) {
      laps.add(stand);
      stand = afterRow(mix, stand, now.row.size());
      if (stand == null) {
        return NONE;
      }
    }
    int first = laps.indexOf(stand);
    return what == 0 ? first : laps.size() - first;
  }

  int trace(int set, int n, int seen) {
    if (!isSet(1, set) || !in(n, 0, 15) || n > now.row.size() || !in(seen, 0, 1073741823)) {
      return NONE;
    }
    // Everybody walks for himself.
    int found = 0;
    for (int place = 0; place < now.colours.size(); place++) {
      int at = place;
      int doors = now.doors;
      boolean fits = true;
      for (int i = 0; i < n; i++) {
        int word = now.row.get(i);
        if (bars(word, doors)) {
          return NONE;
        }
        at = step(0, word, at, doors);
        doors = doorsBehind(word, doors);
        fits = fits && now.colours.get(at) == (int) (seen / Math.pow(4, i)) % 4;
      }
      if (fits && (set >> place & 1) == 1) {
        found |= 1 << at;
      }
    }
    return now.colours.isEmpty() && afterRow(1, new Stand(0, now.doors), n) == null ? NONE : found;
  }

  int stands(int mix, int set) {
    if (!isSet(mix, set)) {
      return NONE;
    }
    known.clear();
    List<Stand> all = new ArrayList<>(List.of(new Stand(set, now.doors)));
    Set<Stand> seen = new HashSet<>(all);
    for (int i = 0; i < all.size(); i++) {
      for (int word = 0; word < now.words.size(); word++) {
        Stand stand = quick(mix, all.get(i), word);
        if (stand != null && seen.add(stand)) {
          all.add(stand);
        }
      }
    }
    return all.size();
  }

  int pair(int kind, int one, int other) {
    return in(kind, 0, 1) && isPlace(one) && isPlace(other) ? fewest(kind + 1, 1 << one | 1 << other, NONE) : NONE;
  }

  int which(int kind, int one, int other) {
    return in(kind, 0, 1) && isPlace(one) && isPlace(other) ? spell(kind + 1, 1 << one | 1 << other, NONE, 0) : NONE;
  }

  int farthest(int kind) {
    if (!in(kind, 0, 1)) {
      return NONE;
    }
    int most = 0;
    for (int one = 0; one < now.colours.size(); one++) {
      for (int other = 0; other < one; other++) {
        int words = pair(kind, one, other);
        if (words == NONE) {
          return NONE;
        }
        most = Math.max(most, words);
      }
    }
    return most;
  }

  int bar(int kind) {
    for (int one = 0; one < now.colours.size() && in(kind, 0, 1); one++) {
      for (int other = one + 1; other < now.colours.size(); other++) {
        if (pair(kind, one, other) == NONE) {
          return 12 * one + other;
        }
      }
    }
    return NONE;
  }

  int plod(int kind, int set) {
    if (!in(kind, 0, 1) || !isSet(1, set) || set == 0) {
      return NONE;
    }
    int doorsNow = now.doors;
    Stand stand = new Stand(set, doorsNow);
    int total = 0;
    while (stand != null && Integer.bitCount(stand.set) > 1) {
      now.doors = stand.doors;
      List<Integer> best = null;
      for (int one = 0; one < 12; one++) {
        for (int other = one + 1; other < 12; other++) {
          if ((stand.set >> one & stand.set >> other & 1) == 1) {
            List<Integer> row = first(kind + 1, 1 << one | 1 << other, NONE);
            if (!row.isEmpty() && (best == null || row.size() < best.size())) {
              best = row;
            }
          }
        }
      }
      if (best == null) {
        total = NONE;
        break;
      }
      total += best.size();
      for (int word : best) {
        stand = behind(kind + 1, stand, word);
      }
    }
    now.doors = doorsNow;
    return total;
  }

  private List<Stand> seenBehind(Stand stand, int word) {
    Stand behind = quick(1, stand, word);
    if (behind == null) {
      return null;
    }
    Map<Integer, Integer> byColour = new HashMap<>();
    for (int place = 0; place < now.colours.size(); place++) {
      if ((behind.set >> place & 1) == 1) {
        byColour.merge(now.colours.get(place), 1 << place, (a, b) -> a | b);
      }
    }
    List<Stand> parts = new ArrayList<>();
    for (int set : byColour.values()) {
      parts.add(new Stand(set, behind.doors));
    }
    return parts;
  }

  /** By rounds: what needs one word, two words and so on, till a round finds nothing more. */
  private Map<Stand, Integer> sights(int set) {
    known.clear();
    List<Stand> all = new ArrayList<>(List.of(new Stand(set, now.doors)));
    Set<Stand> seen = new HashSet<>(all);
    for (int i = 0; i < all.size(); i++) {
      for (int word = 0; word < now.words.size(); word++) {
        List<Stand> parts = seenBehind(all.get(i), word);
        for (Stand part : parts == null ? List.<Stand>of() : parts) {
          if (seen.add(part)) {
            all.add(part);
          }
        }
      }
    }
    Map<Stand, Integer> levels = new HashMap<>();
    for (Stand stand : all) {
      if (Integer.bitCount(stand.set) == 1) {
        levels.put(stand, 0);
      }
    }
    for (int round = 1; true; round++) {
      Map<Stand, Integer> found = new HashMap<>();
      for (Stand stand : all) {
        for (int word = 0; word < now.words.size() && !levels.containsKey(stand); word++) {
          List<Stand> parts = seenBehind(stand, word);
          if (parts != null && levels.keySet().containsAll(parts)) {
            found.put(stand, round);
          }
        }
      }
      if (found.isEmpty()) {
        return levels;
      }
      levels.putAll(found);
    }
  }

  int sight(int set) {
    return isSet(1, set) && set != 0 ? sights(set).getOrDefault(new Stand(set, now.doors), NONE) : NONE;
  }

  int ask(int set) {
    int least = sight(set);
    if (least < 1) {
      return NONE;
    }
    Map<Stand, Integer> levels = sights(set);
    for (int word = 0; word < now.words.size(); word++) {
      List<Stand> parts = seenBehind(new Stand(set, now.doors), word);
      int worst = 0;
      for (Stand part : parts == null ? List.<Stand>of() : parts) {
        worst = Math.max(worst, levels.getOrDefault(part, 1000000));
      }
      if (parts != null && worst + 1 == least) {
        return word;
      }
    }
    return NONE;
  }

  private int held() {
    int total = 0;
    for (int times : now.store.values()) {
      total += times;
    }
    return total;
  }

  int hold(int set) {
    return call(() -> {
      check(in(set, 0, 4095), -1);
      check(held() < 200, -5);
      return now.store.merge(set, 1, Integer::sum);
    });
  }

  int drop(int set) {
    return call(() -> {
      check(in(set, 0, 4095), -1);
      check(now.store.containsKey(set), -3);
      Integer left = now.store.compute(set, (key, times) -> times == 1 ? null : times - 1);
      return left == null ? 0 : left;
    });
  }

  int held(int set) {
    return in(set, 0, 4095) ? now.store.getOrDefault(set, 0) : NONE;
  }

  int kth(int i) {
    if (i == NONE) {
      return now.store.size();
    }
    return in(i, 0, now.store.size() - 1) ? new ArrayList<>(now.store.keySet()).get(i) : NONE;
  }

  int rank(int set) {
    return in(set, 0, 4095) ? now.store.headMap(set).size() : NONE;
  }

  int about(int set, int what) {
    if (!in(set, 0, 4095) || !in(what, 0, 2)) {
      return NONE;
    }
    int found = 0;
    for (int held : now.store.keySet()) {
      if (what == 0 ? (held | set) == set : (held & set) == set) {
        if (what == 2) {
          return held;
        }
        found++;
      }
    }
    return what == 2 ? NONE : found;
  }

  int near(int set, int what) {
    if (!in(set, 0, 4095) || !in(what, 0, 1)) {
      return NONE;
    }
    for (int bits = 0; bits <= 12; bits++) {
      for (int held : now.store.keySet()) {
        if (Integer.bitCount(held ^ set) == bits) {
          return what == 0 ? held : bits;
        }
      }
    }
    return NONE;
  }

  int between(int one, int other) {
    return in(one, 0, 4095) && in(other, one, 4095) ? now.store.subMap(one, true, other, true).size() : NONE;
  }

  int walker(int place, int kind) {
    return call(() -> {
      check(in(kind, 0, 1), -1);
      check(isPlace(place), -2);
      check(now.walkers.size() < 12, -5);
      now.walkers.add(new int[] {place, kind});
      return now.walkers.size() - 1;
    });
  }

  int where(int walker) {
    return in(walker, 0, now.walkers.size() - 1) ? now.walkers.get(walker)[0] : NONE;
  }

  int say(int word) {
    return call(() -> {
      check(isWord(word), -2);
      check(!bars(word, now.doors), -3);
      Set<Integer> taken = new HashSet<>();
      for (int[] walker : now.walkers) {
        walker[0] = step(walker[1], word, walker[0], now.doors);
        taken.add(walker[0]);
      }
      now.doors = doorsBehind(word, now.doors);
      return taken.size();
    });
  }

  int horn(int seed, int n) {
    return call(() -> {
      check(in(seed, 0, 1000000) && in(n, 0, 200), -1);
      hornAt = new ArrayList<>();
      for (int[] walker : now.walkers) {
        hornAt.add(walker[0]);
      }
      hornDoors = now.doors;
      long s = seed;
      for (int i = 0; i < n; i++) {
        List<Integer> free = new ArrayList<>();
        for (int word = 0; word < now.words.size(); word++) {
          if (!bars(word, hornDoors)) {
            free.add(word);
          }
        }
        if (free.isEmpty()) {
          return i;
        }
        s = (s * 1103 + 12345) % 1000003;
        int word = free.get((int) (s % free.size()));
        for (int k = 0; k < hornAt.size(); k++) {
          hornAt.set(k, step(now.walkers.get(k)[1], word, hornAt.get(k), hornDoors));
        }
        hornDoors = doorsBehind(word, hornDoors);
      }
      return n;
    });
  }

  int drawn(int walker) {
    if (hornAt == null) {
      return NONE;
    }
    return walker == NONE ? hornDoors : in(walker, 0, hornAt.size() - 1) ? hornAt.get(walker) : NONE;
  }

  int image(int k) {
    return call(() -> {
      check(in(k, 0, 1), -1);
      images[k] = now.copy();
      return 0;
    });
  }

  int back(int k) {
    return call(() -> {
      check(in(k, 0, 1), -1);
      check(images[k] != null, -2);
      now = images[k].copy();
      return 0;
    });
  }

  int count(int what) {
    int[] reasons = {-1, -2, -3, -5, -6};
    return switch (what) {
      case 0 -> now.colours.size();
      case 1 -> now.words.size();
      case 2 -> now.laws.size();
      case 3 -> now.row.size();
      case 4 -> held();
      case 5 -> now.walkers.size();
      case 6 -> tape.size();
      case 7, 8, 9, 10, 11 -> refused.getOrDefault(reasons[what - 7], 0);
      case 12 -> now.force;
      case 13 -> now.doors;
      default -> NONE;
    };
  }

  int status() {
    return status;
  }
}
