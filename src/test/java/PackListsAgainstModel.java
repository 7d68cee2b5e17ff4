import java.util.ArrayList;
import java.util.Collections;
import java.util.LinkedHashMap;
import java.util.List;
import java.util.Map;
import java.util.Random;
import java.util.TreeMap;

/** Long runs of calls by a fixed seed: each answer is compared with that of a slow, plain model. */
public final class PackListsAgainstModel {
  private static final int RUNS = 600;
  private static final int MOST_CALLS = 512;

  /** The document told again with maps and texts, and packings by trying every way. */
  private static final class Model {
    static final Map<String, int[][]> GRAMMAR = new LinkedHashMap<>();
    static {
      int[] c = {0, 8}, any = {0, 999999}, s = {0, 9}, r = {0, 3};
      GRAMMAR.put("apart", new int[][] {c, c});
      GRAMMAR.put("points", new int[][] {c, {0, 1000}});
      GRAMMAR.put("rank", new int[][] {c, {0, 99}});
      GRAMMAR.put("free", new int[][] {any});
      GRAMMAR.put("mark", new int[][] {c, any, {1, 9}});
      GRAMMAR.put("tunnel", new int[][] {c, {1, 5}});
      GRAMMAR.put("note", new int[][] {{0, 3}, any});
      GRAMMAR.put("step", new int[][] {s, r, s});
      GRAMMAR.put("class", new int[][] {s, r, c});
    }

    final StringBuilder text = new StringBuilder();
    List<List<Object>> told = new ArrayList<>();
    final List<int[]> bottles = new ArrayList<>(); // class, grams, step, reason
    final List<long[]> boxes = new ArrayList<>(); // grams, n, absorber
    final List<Integer> away = new ArrayList<>();
    Map<Integer, Integer> found = null;
    boolean untouched = false;

    boolean unit(int u) {
      if (u < 0 || u > 255 || text.length() == 1500) return false;
      text.append((char) u);
      untouched = false;
      return true;
    }

    int rules() {
      untouched = false;
      List<String> words = new ArrayList<>();
      for (String w : text.toString().split("[ \n]+", -1)) if (!w.isEmpty()) words.add(w);
      text.setLength(0);
      List<List<Object>> fresh = new ArrayList<>();
      int at = 0;
      while (at < words.size()) {
        int[][] limits = GRAMMAR.get(words.get(at));
        if (limits == null) return -1 - at;
        List<Object> sentence = new ArrayList<>();
        sentence.add(words.get(at));
        if (tooMany(fresh, sentence)) return -1 - at;
        at++;
        for (int[] limit : limits) {
          if (at == words.size() || !words.get(at).matches("[0-9]{1,6}")) return -1 - at;
          int n = Integer.parseInt(words.get(at));
          if (n < limit[0] || n > limit[1]) return -1 - at;
          sentence.add(n);
          if (tooMany(fresh, sentence)) return -1 - at;
          at++;
        }
        fresh.add(sentence);
      }
      told = fresh;
      return fresh.size();
    }

    static boolean tooMany(List<List<Object>> before, List<Object> begun) {
      if (begun.equals(List.of("note"))) {
        return before.stream().filter(t -> t.get(0).equals("note")).count() >= 4 * 8;
      }
      if (begun.get(0).equals("note") && begun.size() == 2) {
        return before.stream().filter(t -> t.subList(0, 2).equals(begun)).count() >= 8;
      }
      if (begun.get(0).equals("mark") && begun.size() == 3) {
        boolean old = before.stream().anyMatch(t -> t.subList(0, Math.min(3, t.size())).equals(begun));
        long different = before.stream().filter(t -> t.subList(0, 2).equals(begun.subList(0, 2))).map(t -> t.get(2)).distinct().count();
        return !old && different >= 6;
      }
      return false;
    }

    int last(String word, int cls) {
      int answer = 0;
      for (List<Object> t : told) if (t.get(0).equals(word) && t.get(1).equals(cls)) answer = (Integer) t.get(2);
      return answer;
    }

    boolean apart(int c, int d) {
      return told.contains(List.of("apart", c, d)) || told.contains(List.of("apart", d, c));
    }

    long free() {
      int answer = 0;
      for (List<Object> t : told) if (t.get(0).equals("free")) answer = (Integer) t.get(1);
      return answer;
    }

    int bottle(int cls, long grams) {
      if (cls < -1 || cls > 8 || grams < 1 || grams > 100000 || bottles.size() == 8) return -1;
      bottles.add(new int[] {cls, (int) grams, 0, 0});
      untouched = false;
      return bottles.size() - 1;
    }

    int box(int kind, long grams, int n) {
      if (kind < 0 || kind > 3 || grams < 0 || grams > 1000000 || n < 0 || n > 8 || boxes.size() == 5) return -1;
      boxes.add(new long[] {grams, n, 0});
      untouched = false;
      return boxes.size() - 1;
    }

    boolean absorber(int box, long grams) {
      if (box < 0 || box >= boxes.size() || grams < 0 || grams > 1000000) return false;
      boxes.get(box)[2] = grams;
      untouched = false;
      return true;
    }

    List<Integer> due() {
      List<Integer> answer = new ArrayList<>();
      for (int b = 0; b < bottles.size(); b++) if (bottles.get(b)[3] == 0 && bottles.get(b)[0] >= 0) answer.add(b);
      return answer;
    }

    boolean isPacking(Map<Integer, Integer> way) {
      for (int x = 0; x < boxes.size(); x++) {
        List<Integer> inside = new ArrayList<>();
        for (Map.Entry<Integer, Integer> e : way.entrySet()) if (e.getValue() == x) inside.add(e.getKey());
        if (inside.isEmpty()) continue;
        long grams = boxes.get(x)[2];
        for (int b : inside) grams += bottles.get(b)[1];
        if (inside.size() > boxes.get(x)[1] || grams > boxes.get(x)[0]) return false;
        for (int b : inside) for (int d : inside) if (b != d && apart(bottles.get(b)[0], bottles.get(d)[0])) return false;
      }
      return true;
    }

    int pack(long nodes) {
      List<Integer> due = due();
      long ways = 1;
      for (int i = 0; i < due.size(); i++) ways *= boxes.size();
      if (ways > nodes) return -1;
      Map<Integer, Integer> best = null;
      long fewest = Long.MAX_VALUE;
      for (long way = 0; way < ways; way++) {
        Map<Integer, Integer> map = new TreeMap<>();
        long rest = way;
        for (int i = due.size() - 1; i >= 0; i--) {
          map.put(due.get(i), (int) (rest % boxes.size()));
          rest /= boxes.size();
        }
        long needs = map.values().stream().distinct().count();
        if (needs < fewest && isPacking(map)) {
          best = map;
          fewest = needs;
        }
      }
      if (best == null) return -1;
      found = best;
      untouched = true;
      return (int) fewest;
    }

    int boxOf(int bottle) {
      return found == null ? -1 : found.getOrDefault(bottle, -1);
    }

    boolean proved() {
      return found != null && untouched;
    }

    boolean kept() {
      return found != null && new ArrayList<>(found.keySet()).equals(due()) && isPacking(found);
    }

    TreeMap<Integer, Integer> grams() {
      TreeMap<Integer, Integer> answer = new TreeMap<>();
      if (found != null) for (int b : found.keySet()) answer.merge(bottles.get(b)[0], bottles.get(b)[1], Integer::sum);
      return answer;
    }

    long points(int cls, int grams) {
      return (long) Math.ceil(grams / 1000.0) * last("points", cls);
    }

    long points() {
      long sum = 0;
      for (Map.Entry<Integer, Integer> e : grams().entrySet()) sum += points(e.getKey(), e.getValue());
      return sum;
    }

    boolean exempt() {
      return points() <= free();
    }

    List<Integer> classes() {
      List<Integer> answer = new ArrayList<>(grams().keySet());
      answer.sort((c, d) -> Integer.compare(100 * last("rank", c) + c, 100 * last("rank", d) + d));
      return answer;
    }

    List<Integer> order() {
      List<Integer> answer = new ArrayList<>();
      for (int c : classes()) for (int b : found.keySet()) if (bottles.get(b)[0] == c) answer.add(b);
      return answer;
    }

    String paper() {
      StringBuilder answer = new StringBuilder();
      for (int c : classes()) answer.append(c + " " + grams().get(c) + " " + points(c, grams().get(c)) + "\n");
      return answer.toString();
    }

    int mark(int cls) {
      if (cls < 0 || cls > 8) return -1;
      if (!grams().containsKey(cls)) return 0;
      Map<Integer, Integer> marks = new LinkedHashMap<>();
      for (List<Object> t : told) if (t.get(0).equals("mark") && t.get(1).equals(cls)) marks.put((Integer) t.get(2), (Integer) t.get(3));
      int answer = 0;
      for (Map.Entry<Integer, Integer> e : marks.entrySet()) if (grams().get(cls) >= e.getKey()) answer = e.getValue();
      return answer;
    }

    int tunnel() {
      int answer = 0;
      if (!exempt()) for (int c : classes()) answer = Math.max(answer, last("tunnel", c));
      return answer;
    }

    int note(int language, int i) {
      List<Integer> notes = new ArrayList<>();
      for (List<Object> t : told) if (t.get(0).equals("note") && t.get(1).equals(language)) notes.add((Integer) t.get(2));
      return at(notes, i);
    }

    int refuse(int bottle, int reason) {
      if (bottle < 0 || bottle >= bottles.size() || reason < 1 || reason > 9 || bottles.get(bottle)[3] != 0) return -1;
      bottles.get(bottle)[3] = reason;
      away.add(10 * bottle + reason);
      untouched = false;
      return away.size();
    }

    int test(int bottle, int step, int result) {
      if (bottle < 0 || bottle >= bottles.size()) return -100;
      int[] b = bottles.get(bottle);
      if (b[0] != -1 || b[2] != step) return -100;
      List<Object> rule = null;
      for (List<Object> t : told) {
        boolean tells = t.get(0).equals("step") || t.get(0).equals("class");
        if (tells && t.get(1).equals(step) && t.get(2).equals(result)) rule = t;
      }
      if (rule == null) return -100;
      untouched = false;
      int to = (Integer) rule.get(3);
      b[rule.get(0).equals("step") ? 2 : 0] = to;
      return rule.get(0).equals("step") ? to : -1 - to;
    }

    static int at(List<Integer> list, int k) {
      return k >= 0 && k < list.size() ? list.get(k) : -1;
    }
  }

  private final Random random;
  private final int run;
  private final PackLists x = new PackLists();
  private final Model m = new Model();
  private final List<String> calls = new ArrayList<>();
  private int count = 0;
  private boolean wrong = false;

  private PackListsAgainstModel(int run) {
    this.run = run;
    this.random = new Random(run);
  }

  private void due(String call, long got, long want) {
    count++;
    boolean free = count > MOST_CALLS;
    if (got != want && !free && !wrong) {
      wrong = true;
      System.out.println("run " + run + ": " + call + " answered " + got + ", due is " + want + ", after " + calls);
    }
  }

  private static long of(boolean b) {
    return b ? 1 : 0;
  }

  private int below(int n) {
    return random.nextInt(n);
  }

  private String number(int[] limit) {
    int kind = below(40);
    if (kind == 0) return String.valueOf(limit[1] + 1);
    if (kind == 1) return "x" + limit[0];
    if (kind == 2) return "00" + limit[0];
    if (kind == 3) return String.valueOf(limit[0] - 1);
    if (limit[1] == 999999) return String.valueOf(below(7) * 500);
    if (limit[1] <= 9) return String.valueOf(limit[0] + below(Math.min(4, limit[1] - limit[0] + 1)));
    return String.valueOf(below(limit[1] + 1));
  }

  /** Notes of all languages mixed, at most a few short of as many as there may be. */
  private String manyNotes() {
    List<String> notes = new ArrayList<>();
    for (int i = 0; i < 32; i++) notes.add("note " + i % 4 + " " + below(9) + " ");
    Collections.shuffle(notes, random);
    return String.join("", notes.subList(below(3), notes.size()));
  }

  private void tellText() {
    StringBuilder text = new StringBuilder();
    if (below(20) == 0) text.append(manyNotes());
    String[] words = Model.GRAMMAR.keySet().toArray(new String[0]);
    int favourite = below(words.length);
    boolean many = below(4) == 0;
    int sentences = many ? 8 + below(5) : below(6);
    for (int i = 0; i < sentences; i++) {
      String word = words[many && below(3) > 0 ? favourite : below(words.length)];
      text.append(word);
      for (int[] limit : Model.GRAMMAR.get(word)) {
        text.append(below(5) == 0 ? "\n" : " ").append(many && limit[1] <= 9 && below(10) > 0 ? "1" : number(limit));
      }
      text.append(below(9) == 0 ? " \n" : " ");
    }
    if (below(10) == 0) text.setLength(below(text.length() + 1));
    calls.add("'" + text + "'");
    for (int i = 0; i < text.length(); i++) {
      due("unit", of(x.unit(text.charAt(i))), of(m.unit(text.charAt(i))));
    }
    if (below(12) > 0) due("rules()", x.rules(), m.rules());
  }

  private void tellOne() {
    int a = below(10) - 1;
    int b = below(5) - 1;
    long grams = below(8) == 0 ? below(120000) : below(15) * 100;
    switch (below(9)) {
      case 0: case 1:
        calls.add("bottle(" + (a % 4) + ", " + grams + ")");
        due("bottle", x.bottle(a % 4, grams), m.bottle(a % 4, grams));
        break;
      case 2:
        calls.add("box(" + b + ", " + 3 * grams + ", " + a + ")");
        due("box", x.box(b, 3 * grams, a), m.box(b, 3 * grams, a));
        break;
      case 3:
        calls.add("absorber(" + b + ", " + grams + ")");
        due("absorber", of(x.absorber(b, grams)), of(m.absorber(b, grams)));
        break;
      case 4:
        calls.add("refuse(" + a + ", " + (a + b) + ")");
        due("refuse", x.refuse(a, a + b), m.refuse(a, a + b));
        break;
      case 5: case 6:
        int step = a >= 0 && a < m.bottles.size() && below(5) > 0 ? m.bottles.get(a)[2] : b;
        calls.add("test(" + a + ", " + step + ", " + b + ")");
        due("test", x.test(a, step, b), m.test(a, step, b));
        break;
      case 7:
        due("unit", of(x.unit(300 * b)), of(m.unit(300 * b)));
        break;
      default:
        long nodes = below(3) > 0 ? 400000 : below(300) - 2;
        calls.add("pack(" + nodes + ")");
        due("pack", x.pack(nodes), m.pack(nodes));
        break;
    }
  }

  private void ask() {
    due("proved()", of(x.proved()), of(m.proved()));
    due("kept()", of(x.kept()), of(m.kept()));
    due("points()", x.points(), m.points());
    due("exempt()", of(x.exempt()), of(m.exempt()));
    due("tunnel()", x.tunnel(), m.tunnel());
    int k = below(11) - 1;
    due("boxOf(" + k + ")", x.boxOf(k), m.boxOf(k));
    due("name(" + k + ")", x.name(k), Model.at(m.classes(), k));
    due("order(" + k + ")", x.order(k), Model.at(m.order(), k));
    due("mark(" + k + ")", x.mark(k), m.mark(k));
    due("refused(" + k + ")", x.refused(k), Model.at(m.away, k));
    int l = below(6) - 1;
    due("note(" + l + ", " + k + ")", x.note(l, k), m.note(l, k));
    String paper = m.paper();
    int i = below(paper.length() + 2) - 1;
    due("paper(" + i + ")", x.paper(i), i >= 0 && i < paper.length() ? paper.charAt(i) : -1);
  }

  private void begin() {
    for (int i = below(6); i > 0; i--) {
      int grams = 500 + 100 * below(40);
      int n = below(9);
      calls.add("box(0, " + grams + ", " + n + ")");
      due("box", x.box(0, grams, n), m.box(0, grams, n));
    }
    for (int i = below(8); i > 0; i--) {
      int cls = below(5) - 1;
      int grams = 100 * (1 + below(15));
      calls.add("bottle(" + cls + ", " + grams + ")");
      due("bottle", x.bottle(cls, grams), m.bottle(cls, grams));
    }
  }

  private boolean isFine() {
    begin();
    while (count < MOST_CALLS && !wrong) {
      if (below(7) == 0) tellText(); else tellOne();
      if (below(2) == 0) ask();
    }
    return !wrong;
  }

  public static void main(String[] args) {
    int bad = 0;
    for (int run = 0; run < RUNS; run++) if (!new PackListsAgainstModel(run).isFine()) bad++;
    System.out.println(RUNS + " runs against the model, " + bad + " not as due");
    if (bad != 0) System.exit(1);
  }
}
