import java.util.function.Function;
import java.util.function.ToLongFunction;

/**
 * The sentences of the document that name a boundary, one method each: what the calls answer before it and behind it,
 * and after a call that was refused.
 */
public final class PackListsBoundaries {
  private static final int NONE = PackLists.NONE;
  private static final long PLENTY = 400000L;
  private static final int MOST_CALLS = 512;
  private static final int MIN = Integer.MIN_VALUE;
  private static final int MAX = Integer.MAX_VALUE;
  /** Too much, and yet 0 if it were cut to an int. */
  private static final long CUT = 4294967296L;
  private static final long[] NO_BOX_GRAMS = {-1, 1000001, CUT, -CUT, Long.MIN_VALUE, Long.MAX_VALUE};

  private static int wrong = 0;
  private static int checks = 0;
  private static String sentence = "";

  private static void due(String call, String got, String want) {
    checks++;
    if (!got.equals(want)) {
      wrong++;
      System.out.println(sentence + ": " + call + " answered " + got + ", due is " + want);
    }
  }

  private static void due(String call, long got, long want) {
    due(call, String.valueOf(got), String.valueOf(want));
  }

  private static void due(String call, boolean got, boolean want) {
    due(call, String.valueOf(got), String.valueOf(want));
  }

  /** An object whose calls are counted: behind the 512th every answer is free, so no test may look there. */
  private static final class Lists {
    private final PackLists object = new PackLists();
    private int calls = 0;

    private PackLists next() {
      calls++;
      if (calls == MOST_CALLS + 1) {
        wrong++;
        System.out.println(sentence + ": this test makes more than " + MOST_CALLS + " calls of one object");
      }
      return object;
    }

    boolean unit(int u) { return next().unit(u); }
    int rules() { return next().rules(); }
    int bottle(int cls, long grams) { return next().bottle(cls, grams); }
    int box(int kind, long grams, int n) { return next().box(kind, grams, n); }
    boolean absorber(int box, long grams) { return next().absorber(box, grams); }
    int pack(long nodes) { return next().pack(nodes); }
    int boxOf(int bottle) { return next().boxOf(bottle); }
    boolean proved() { return next().proved(); }
    boolean kept() { return next().kept(); }
    long points() { return next().points(); }
    boolean exempt() { return next().exempt(); }
    int name(int k) { return next().name(k); }
    int order(int k) { return next().order(k); }
    int paper(int i) { return next().paper(i); }
    int mark(int cls) { return next().mark(cls); }
    int tunnel() { return next().tunnel(); }
    int note(int language, int i) { return next().note(language, i); }
    int refuse(int bottle, int reason) { return next().refuse(bottle, reason); }
    int refused(int k) { return next().refused(k); }
    int test(int bottle, int step, int result) { return next().test(bottle, step, result); }

    void say(String text) {
      for (int i = 0; i < text.length(); i++) due("unit of '" + text + "'", unit(text.charAt(i)), true);
    }

    int tell(String text) {
      say(text);
      return rules();
    }

    String boxes(int bottles) {
      StringBuilder answer = new StringBuilder();
      for (int b = 0; b < bottles; b++) answer.append(boxOf(b)).append(' ');
      return answer.toString().trim();
    }

    String names() {
      return row(this::name, 9);
    }

    String orders() {
      return row(this::order, 8);
    }

    String notes(int language) {
      return row(i -> note(language, i), 8);
    }

    String refusals() {
      return row(this::refused, 8);
    }

    /** All up to the first NONE; one behind the most that there can be must be NONE in any case. */
    private String row(Function<Integer, Integer> ask, int most) {
      StringBuilder answer = new StringBuilder();
      for (int k = 0; k <= most; k++) {
        int got = ask.apply(k);
        if (got == NONE) return answer.toString().trim();
        answer.append(got).append(' ');
      }
      return answer + "and more than " + most;
    }

    String sheet() {
      StringBuilder answer = new StringBuilder();
      for (int i = 0; i < 200; i++) {
        int u = paper(i);
        if (u == NONE) return answer.toString();
        answer.append((char) u);
      }
      return answer + "and no end";
    }

    /** What all calls that only ask answer. */
    String state() {
      StringBuilder answer = new StringBuilder();
      answer.append(boxes(8)).append('|').append(proved()).append(kept()).append(points()).append(exempt());
      answer.append('|').append(names()).append('|').append(orders()).append('|').append(sheet()).append('|');
      for (int c = 0; c < 9; c++) answer.append(mark(c));
      answer.append('|').append(tunnel()).append('|');
      for (int l = 0; l < 4; l++) answer.append(notes(l)).append(',');
      return answer.append('|').append(refusals()).toString();
    }
  }

  private static Lists told(String text) {
    Lists x = new Lists();
    due("rules() of '" + text + "'", x.tell(text) >= 0, true);
    return x;
  }

  /** One box for everything, and a bottle for each two numbers, a class and grams. */
  private static Lists packed(String text, long... classesAndGrams) {
    Lists x = told(text);
    due("box", x.box(0, 1000000, 8), 0);
    for (int i = 0; i + 1 < classesAndGrams.length; i += 2) {
      due("bottle", x.bottle((int) classesAndGrams[i], classesAndGrams[i + 1]), i / 2);
    }
    due("pack", x.pack(PLENTY), classesAndGrams.length == 0 ? 0 : 1);
    return x;
  }

  private static void dueRules(String text, int want) {
    due("rules() of '" + text + "'", new Lists().tell(text), want);
  }

  public static void main(String[] args) {
    newObject();
    calls();
    terms();
    promises2And3();
    promises4To6();
    promises7And8();
    promises9And10();
    promises11To17();
    promises18To21();
    System.out.println(checks + " checks, " + wrong + " not as due");
    if (wrong != 0) System.exit(1);
  }

  private static void terms() {
    unknownAtStepZero();
    absorberZeroAtFirst();
    toBePacked();
    rulesAtFirst();
    newTextIsAll();
    textsBeforeLeaveNothing();
    refusedChangesNothing();
    refusedChangesNothingWhenFull();
    foundStays();
  }

  private static void promises2And3() {
    unitRange();
    unit1500();
    words();
    numbers();
    numbersOfEachSentence();
    limitsAct();
    sentenceCounts();
    moreShouldCome();
    firstWordThatCannotStand();
    textIsEmptyThen();
    rulesStay();
    eightNotes();
    allNotesFull();
    sixMarks();
    toldAgain();
  }

  private static void promises4To6() {
    bottleRange();
    eightBottles();
    boxRange();
    fiveBoxes();
    absorberRange();
  }

  private static void promises7And8() {
    boxOfSoManyBottles();
    boxOfSoManyGrams();
    absorberTakesGrams();
    boxThatGetsNone();
    keepApart();
    boxFreeForOthersAgain();
    fewestBoxes();
    firstOfTheFewest();
    packNone();
    moreWaysThanNodes();
    waysOfNothing();
    boxOfNone();
  }

  private static void promises9And10() {
    provedOnlyWhenFound();
    provedAfterRefused();
    provedAfterTold();
    provedAfterRules();
    provedAfterPackThatFindsNone();
    keptBeforeFound();
    keptOfTheBottlesNow();
    keptByAllAsItIsNow();
  }

  private static void promises11To17() {
    begun1000Grams();
    pointsOfAClassTogether();
    exemptAtMostFree();
    nameNone();
    orderNone();
    ranksThenNumbers();
    paperNone();
    paperLongest();
    markRange();
    markReached();
    markThatActs();
    tunnelGreatest();
    tunnelZero();
  }

  private static void promises18To21() {
    noteNone();
    refuseRange();
    refuseTwice();
    refusedNone();
    testRange();
    testAtAnotherStep();
    testOfAKnownOne();
    testThatRulesTellNothingOf();
    testTellsEachClassAndStep();
  }

  private static void newObject() {
    sentence = "1: no bottles, no boxes, no rules; nothing was found";
    Lists x = new Lists();
    due("state", x.state(), "-1 -1 -1 -1 -1 -1 -1 -1|falsefalse0true||||000000000|0|,,,,|");
    due("refuse(0, 1)", x.refuse(0, 1), NONE);
    due("test(0, 0, 0)", x.test(0, 0, 0), -100);
    due("absorber(0, 0)", x.absorber(0, 0), false);
    due("state after refused calls", x.state(), "-1 -1 -1 -1 -1 -1 -1 -1|falsefalse0true||||000000000|0|,,,,|");
    due("rules()", x.rules(), 0);
    due("bottle(0, 1)", x.bottle(0, 1), 0);
    due("box(0, 1, 1)", x.box(0, 1, 1), 0);
    due("pack(1)", x.pack(1), 1);
  }

  private static void calls() {
    sentence = "an object is used for at most 512 calls";
    Lists x = new Lists();
    x.box(0, 10, 1);
    x.bottle(0, 10);
    for (int i = 0; i < 502; i++) x.unit(i % 2 == 0 ? 32 : 10);
    x.say("free 1");
    due("rules(), the 511th call", x.rules(), 1);
    due("pack(1), the 512th call", x.pack(1), 1);
  }

  private static void unknownAtStepZero() {
    sentence = "an unknown bottle is at step 0 at first";
    Lists x = told("step 0 0 5 step 1 0 6");
    x.bottle(NONE, 1);
    due("test(0, 1, 0)", x.test(0, 1, 0), -100);
    due("test(0, 0, 0)", x.test(0, 0, 0), 5);
    due("test(0, 0, 0) when it is not there any more", x.test(0, 0, 0), -100);
    x.bottle(NONE, 1);
    due("test(1, 0, 0) of a new one", x.test(1, 0, 0), 5);
  }

  private static void absorberZeroAtFirst() {
    sentence = "an absorber takes 0 grams at first";
    Lists x = new Lists();
    x.box(0, 10, 1);
    x.bottle(0, 10);
    due("pack", x.pack(PLENTY), 1);
    x.absorber(0, 1);
    due("pack with a gram of absorber", x.pack(PLENTY), NONE);
    x.box(0, 10, 1);
    due("pack with a new box", x.pack(PLENTY), 1);
    due("boxOf(0)", x.boxOf(0), 1);
  }

  private static void toBePacked() {
    sentence = "to be packed when it is not refused and its class is known";
    Lists x = told("class 0 0 4");
    x.box(0, 1000, 8);
    x.bottle(0, 1);
    x.bottle(1, 1);
    x.bottle(NONE, 1);
    x.bottle(NONE, 1);
    x.refuse(1, 1);
    x.refuse(3, 1);
    due("pack", x.pack(PLENTY), 1);
    due("boxes", x.boxes(4), "0 -1 -1 -1");
    due("test(2, 0, 0)", x.test(2, 0, 0), -5);
    due("test(3, 0, 0) of a refused one", x.test(3, 0, 0), -5);
    due("boxes before the next pack", x.boxes(4), "0 -1 -1 -1");
    due("pack", x.pack(PLENTY), 1);
    due("boxes when two are known", x.boxes(4), "0 -1 0 -1");
    x.refuse(0, 1);
    x.refuse(2, 1);
    due("pack when all are refused", x.pack(PLENTY), 0);
    due("boxes when all are refused", x.boxes(4), "-1 -1 -1 -1");
  }

  private static void rulesAtFirst() {
    sentence = "at first none are apart, points, ranks, what is free and codes are 0, no marks, notes, steps";
    Lists x = packed("", 8, 5, 0, 2000, 8, 5, NONE, 1);
    due("state", x.state(), "0 0 0 -1 -1 -1 -1 -1|truetrue0true|0 8|1 0 2|0 2000 0\n8 10 0\n|000000000|0|,,,,|");
    for (int r = 0; r < 4; r++) due("test(3, 0, " + r + ")", x.test(3, 0, r), -100);
    due("rules of 1 point more than is free", x.tell("points 0 1"), 1);
    due("exempt() when 0 points are free", x.exempt(), false);
  }

  private static void newTextIsAll() {
    sentence = "a new text's rules are all there are then";
    String all = "apart 1 2 points 0 5 rank 0 9 free 4 mark 0 1 7 tunnel 0 3 note 2 8 step 0 0 1 class 0 1 2";
    Lists x = packed(all, 0, 10, 1, 10, NONE, 1);
    due("points()", x.points(), 5);
    due("rules() of 'tunnel 1 2'", x.tell("tunnel 1 2"), 1);
    dueOnly(x, "falsetrue0true", 0, 0);
    due("rules() of 'points 1 1'", x.tell("points 1 1"), 1);
    dueOnly(x, "falsetrue1false", 1, 0);
    due("rules() of 'points 1 1 tunnel 1 2'", x.tell("points 1 1 tunnel 1 2"), 2);
    dueOnly(x, "falsetrue1false", 1, 2);
  }

  private static void dueOnly(Lists x, String answers, int points, int code) {
    due("state", x.state(), "0 0 -1 -1 -1 -1 -1 -1|" + answers + "|0 1|0 1|0 10 0\n1 10 " + points + "\n|000000000|" + code + "|,,,,|");
    for (int r = 0; r < 4; r++) due("test(2, 0, " + r + ")", x.test(2, 0, r), -100);
  }

  private static void textsBeforeLeaveNothing() {
    sentence = "a new text's rules are all there are then, also behind a text that was bad";
    String all = "apart 0 1 points 0 5 rank 0 9 free 4 mark 0 1 7 tunnel 0 3 note 2 8 step 0 0 1 class 0 1 2";
    Lists x = packed("", 0, 10, 1, 10, NONE, 1);
    for (int i = 0; i < 2; i++) {
      due("rules() of a bad text", x.tell(all + " x"), -30);
      due("rules() of 'points 1 1'", x.tell("points 1 1"), 1);
      dueOnly(x, "falsetrue1false", 1, 0);
    }
  }

  /** A state in which every refused call could do harm: some of a text, room for more, one refused, one found. */
  private static Lists rich() {
    Lists x = told("points 0 7 rank 0 2 free 9 mark 0 5 3 tunnel 0 2 note 1 4 step 0 0 1 class 1 1 2");
    x.say("fr");
    x.box(0, 2100, 2);
    x.box(3, 700, 8);
    x.bottle(0, 1500);
    x.bottle(1, 600);
    x.bottle(NONE, 700);
    x.bottle(2, 10);
    due("refuse(3, 4)", x.refuse(3, 4), 1);
    due("pack", x.pack(4), 1);
    return x;
  }

  /** What only later calls show: the text, the steps, how many there are. */
  private static void dueRichStill(Lists x) {
    due("absorber(0, 0), which must fit", x.absorber(0, 0), true);
    due("kept()", x.kept(), true);
    due("test(2, 0, 0)", x.test(2, 0, 0), 1);
    x.say("ee 3");
    due("rules()", x.rules(), 1);
    due("bottle(0, 1)", x.bottle(0, 1), 4);
    due("box(0, 1, 1)", x.box(0, 1, 1), 2);
    due("refuse(0, 1)", x.refuse(0, 1), 2);
  }

  private static void dueRefused(String call, long want, ToLongFunction<Lists> refusedCall) {
    Lists x = rich();
    String before = x.state();
    due(call, refusedCall.applyAsLong(x), want);
    due("state after " + call, x.state(), before);
    dueRichStill(x);
  }

  private static long of(boolean b) {
    return b ? 1 : 0;
  }

  private static void refusedChangesNothing() {
    sentence = "a call that is refused changes nothing";
    due("state", rich().state(),
      "0 0 -1 -1 -1 -1 -1 -1|truetrue14false|1 0|1 0|1 600 0\n0 1500 14\n|300000000|2|,4,,,|34");
    dueRefused("unit(-1)", 0, x -> of(x.unit(-1)));
    dueRefused("unit(256)", 0, x -> of(x.unit(256)));
    dueRefused("bottle(-2, 1)", NONE, x -> x.bottle(-2, 1));
    dueRefused("bottle(9, 1)", NONE, x -> x.bottle(9, 1));
    dueRefused("bottle(0, 0)", NONE, x -> x.bottle(0, 0));
    dueRefused("bottle(0, 100001)", NONE, x -> x.bottle(0, 100001));
    dueRefused("box(-1, 1, 1)", NONE, x -> x.box(-1, 1, 1));
    dueRefused("box(4, 1, 1)", NONE, x -> x.box(4, 1, 1));
    dueRefused("box(0, -1, 1)", NONE, x -> x.box(0, -1, 1));
    dueRefused("box(0, 1000001, 1)", NONE, x -> x.box(0, 1000001, 1));
    dueRefused("box(0, 1, -1)", NONE, x -> x.box(0, 1, -1));
    dueRefused("box(0, 1, 9)", NONE, x -> x.box(0, 1, 9));
    dueRefused("absorber(2, 1)", 0, x -> of(x.absorber(2, 1)));
    dueRefused("absorber(-1, 1)", 0, x -> of(x.absorber(-1, 1)));
    dueRefused("absorber(0, -1)", 0, x -> of(x.absorber(0, -1)));
    dueRefused("absorber(0, 1000001)", 0, x -> of(x.absorber(0, 1000001)));
    dueRefused("pack(3), a way too few", NONE, x -> x.pack(3));
    dueRefused("pack(MIN)", NONE, x -> x.pack(Long.MIN_VALUE));
    dueRefused("refuse(0, 0)", NONE, x -> x.refuse(0, 0));
    dueRefused("refuse(0, 10)", NONE, x -> x.refuse(0, 10));
    dueRefused("refuse(4, 1)", NONE, x -> x.refuse(4, 1));
    dueRefused("refuse(-1, 1)", NONE, x -> x.refuse(-1, 1));
    dueRefused("refuse(3, 1) again", NONE, x -> x.refuse(3, 1));
    dueRefused("test(2, 1, 1) at another step", -100, x -> x.test(2, 1, 1));
    dueRefused("test(2, 0, 1), nothing told", -100, x -> x.test(2, 0, 1));
    dueRefused("test(2, 0, 4)", -100, x -> x.test(2, 0, 4));
    dueRefused("test(0, 0, 0) of a known one", -100, x -> x.test(0, 0, 0));
    dueRefused("test(4, 0, 0)", -100, x -> x.test(4, 0, 0));
    dueRefused("test(-1, 0, 0)", -100, x -> x.test(-1, 0, 0));
  }

  private static void refusedChangesNothingWhenFull() {
    sentence = "a call that is refused changes nothing (eight bottles, five boxes)";
    Lists x = new Lists();
    for (int i = 0; i < 8; i++) x.bottle(i, 10 + i);
    for (int i = 0; i < 5; i++) x.box(i % 4, 1000, 2);
    due("pack", x.pack(PLENTY), 4);
    String before = x.state();
    due("bottle, the ninth", x.bottle(8, 99999), NONE);
    due("box, the sixth", x.box(0, 999999, 8), NONE);
    due("state", x.state(), before);
    due("boxOf(8)", x.boxOf(8), NONE);
    due("refuse(8, 1)", x.refuse(8, 1), NONE);
    due("absorber(5, 1)", x.absorber(5, 1), false);
    due("pack", x.pack(PLENTY), 4);
    due("state when packed again", x.state(), before);
  }

  private static void foundStays() {
    sentence = "what pack() found stays until the next pack() that finds, whatever is told";
    Lists x = packed("points 0 3", 0, 1001, NONE, 5);
    x.bottle(0, 100000);
    x.box(0, 1000000, 8);
    x.absorber(0, 1000000);
    x.absorber(1, 1000000);
    due("pack that finds none", x.pack(PLENTY), NONE);
    due("pack with too few nodes", x.pack(3), NONE);
    x.refuse(0, 1);
    due("rules()", x.tell("points 0 4 class 0 0 0"), 2);
    due("test(1, 0, 0)", x.test(1, 0, 0), -1);
    due("boxes", x.boxes(3), "0 -1 -1");
    due("points()", x.points(), 8);
    due("orders", x.orders(), "0");
    due("sheet", x.sheet(), "0 1001 8\n");
    x.absorber(1, 0);
    due("pack that finds", x.pack(PLENTY), 1);
    due("boxes of the next one", x.boxes(3), "-1 1 1");
    due("points() of the next one", x.points(), 404);
    due("orders of the next one", x.orders(), "1 2");
  }

  private static void unitRange() {
    sentence = "2: a byte is 0 .. 255";
    Lists x = new Lists();
    due("unit(0)", x.unit(0), true);
    due("rules() of a byte 0", x.rules(), -1);
    due("unit(255)", x.unit(255), true);
    due("rules() of a byte 255", x.rules(), -1);
    for (int u : new int[] {-1, 256, MIN, MAX, 256 + 32, -256 + 32}) due("unit(" + u + ")", x.unit(u), false);
    due("rules() after refused bytes", x.rules(), 0);
    x.say("fre");
    due("unit(-1) inside a word", x.unit(-1), false);
    x.say("e 1");
    due("unit(256) inside a number", x.unit(256), false);
    x.say("2");
    due("rules() of 'free 12'", x.rules(), 1);
    for (int u = 0; u < 256; u++) due("unit(" + u + ")", x.unit(u), true);
  }

  /** No 512 calls come so far, so this is more than is promised, and the calls are not counted. */
  private static void unit1500() {
    sentence = "2: 1500 bytes at most";
    PackLists x = new PackLists();
    for (int i = 0; i < 1493; i++) due("unit(32)", x.unit(32), true);
    for (int u : "free 12".toCharArray()) due("unit(" + u + ")", x.unit(u), true);
    due("unit('3'), the 1501st", x.unit('3'), false);
    due("unit(32), the 1501st", x.unit(32), false);
    due("rules() of 1500 bytes", x.rules(), 1);
    due("unit(32) of an empty text", x.unit(32), true);
    due("unit(256) of a text with room", x.unit(256), false);
  }

  private static void words() {
    sentence = "words are rows of bytes other than 32 and 10, as long as they can be";
    dueRules("free 1", 1);
    dueRules("free\n1", 1);
    dueRules("  \n\nfree \n \n 1\n \n", 1);
    dueRules("free1", -1);
    dueRules("fr ee 1", -1);
    dueRules("free 1free 2", -2);
    dueRules("free 1 2", -3);
    for (char other : new char[] {0, 9, 11, 13, 31, 33, 160, 255}) {
      dueRules("free" + other + "1", -1);
      dueRules(other + "free 1", -1);
      dueRules("free 1" + other, -2);
      dueRules("free 1 " + other, -3);
    }
    dueRules("", 0);
    dueRules(" ", 0);
    dueRules("\n", 0);
  }

  private static void numbers() {
    sentence = "numbers are words of one to six digits";
    Lists x = new Lists();
    String[] good = {"0", "9", "10", "99999", "999999", "000000", "000009"};
    int[] means = {0, 9, 10, 99999, 999999, 0, 9};
    for (int i = 0; i < good.length; i++) {
      due("rules() of 'note 0 " + good[i] + "'", x.tell("note 0 " + good[i]), 1);
      due("note(0, 0)", x.note(0, 0), means[i]);
    }
    String[] bad = {"0000000", "1000000", "0000009", "-1", "+1", "1.", "/", ":", "1/", "1:", "/1", ":1", "x", "1x1", "4294967297"};
    for (String word : bad) {
      due("rules() of 'note 0 " + word + "'", x.tell("note 0 " + word), -3);
    }
    due("note(0, 0) after bad texts", x.note(0, 0), 9);
  }

  private static void numbersOfEachSentence() {
    sentence = "the numbers of each sentence";
    dueNumbers("apart", "0 8", "0 8");
    dueNumbers("points", "0 8", "0 1000");
    dueNumbers("rank", "0 8", "0 99");
    dueNumbers("free", "0 999999");
    dueNumbers("mark", "0 8", "0 999999", "1 9");
    dueNumbers("tunnel", "0 8", "1 5");
    dueNumbers("note", "0 3", "0 999999");
    dueNumbers("step", "0 9", "0 3", "0 9");
    dueNumbers("class", "0 9", "0 3", "0 8");
  }

  /** Each number at its least and its most, and one less and one more, with all others at their least or most. */
  private static void dueNumbers(String word, String... limits) {
    for (int others = 0; others < 2; others++) {
      for (int at = 0; at < limits.length; at++) {
        int least = Integer.parseInt(limits[at].split(" ")[0]);
        int most = Integer.parseInt(limits[at].split(" ")[1]);
        dueRules(sentenceOf(word, limits, others, at, least), 1);
        dueRules(sentenceOf(word, limits, others, at, most), 1);
        dueRules(sentenceOf(word, limits, others, at, least - 1), -2 - at);
        dueRules(sentenceOf(word, limits, others, at, most + 1), -2 - at);
      }
    }
    String whole = sentenceOf(word, limits, 1, 0, Integer.parseInt(limits[0].split(" ")[1]));
    dueRules(whole + " 1", -2 - limits.length);
    dueRules(whole + " " + whole, 2);
    dueRules(word.substring(1), -1);
    dueRules(word.substring(0, word.length() - 1), -1);
    dueRules("x" + word.substring(1), -1);
    dueRules(word.substring(0, word.length() - 1) + "x", -1);
    dueRules(word + word, -1);
    dueRules(word.toUpperCase(), -1);
  }

  private static String sentenceOf(String word, String[] limits, int others, int at, int number) {
    StringBuilder text = new StringBuilder(word);
    for (int i = 0; i < limits.length; i++) text.append(' ').append(i == at ? "" + number : limits[i].split(" ")[others]);
    return text.toString();
  }

  private static void limitsAct() {
    sentence = "the least and the most of each sentence act";
    Lists x = packed("points 8 1000 points 0 0 rank 0 99 rank 1 98 free 999999 mark 8 0 9 mark 0 999999 1", 0, 1, 1, 1, 8, 100000);
    due("points()", x.points(), 100000);
    due("exempt()", x.exempt(), true);
    due("names", x.names(), "8 1 0");
    due("mark(8)", x.mark(8), 9);
    due("mark(0)", x.mark(0), 0);
    due("rules()", x.tell("points 8 1000 free 99999 tunnel 8 5 tunnel 0 1 note 0 0 note 3 999999"), 6);
    due("tunnel()", x.tunnel(), 5);
    due("note(0, 0)", x.note(0, 0), 0);
    due("note(3, 0)", x.note(3, 0), 999999);
    due("rules()", x.tell("apart 0 8"), 1);
    due("pack in one box", x.pack(PLENTY), NONE);
    due("rules()", x.tell("apart 8 0"), 1);
    due("pack in one box", x.pack(PLENTY), NONE);
    due("rules()", x.tell("apart 0 7 apart 8 8 apart 2 1"), 3);
    due("pack in one box", x.pack(PLENTY), 1);
  }

  private static void sentenceCounts() {
    sentence = "3: answers how many sentences it has";
    dueRules("", 0);
    dueRules(" \n", 0);
    dueRules("free 1", 1);
    dueRules("free 1 free 1 free 1", 3);
    dueRules("free 1 ".repeat(72), 72);
    dueRules("apart 1 1 points 1 1 rank 1 1 free 1 mark 1 1 1 tunnel 1 1 note 1 1 step 1 1 1 class 1 1 1", 9);
  }

  private static void moreShouldCome() {
    sentence = "3: how many words there are, when more should come";
    dueRules("apart", -2);
    dueRules("apart 0", -3);
    dueRules("points", -2);
    dueRules("points 0", -3);
    dueRules("rank", -2);
    dueRules("rank 0", -3);
    dueRules("free", -2);
    dueRules("mark", -2);
    dueRules("mark 0", -3);
    dueRules("mark 0 0", -4);
    dueRules("tunnel", -2);
    dueRules("tunnel 0", -3);
    dueRules("note", -2);
    dueRules("note 0", -3);
    dueRules("step", -2);
    dueRules("step 0", -3);
    dueRules("step 0 0", -4);
    dueRules("class", -2);
    dueRules("class 0", -3);
    dueRules("class 0 0", -4);
    dueRules("free 1 mark 0 0 \n", -6);
  }

  private static void firstWordThatCannotStand() {
    sentence = "3: the first word that cannot stand where it does";
    dueRules("x", -1);
    dueRules("x y", -1);
    dueRules("0", -1);
    dueRules("free free 1", -2);
    dueRules("free 1 x y", -3);
    dueRules("mark 9 x 0", -2);
    dueRules("mark 8 x 0", -3);
    dueRules("mark 8 0 0", -4);
    dueRules("mark 8 0 free", -4);
    dueRules("free 1 ".repeat(72) + "x", -145);
    dueRules("free 1 ".repeat(72) + "free", -146);
  }

  private static void textIsEmptyThen() {
    sentence = "3: reads the text, which is empty then";
    Lists x = new Lists();
    due("rules() of 'free'", x.tell("free"), -2);
    due("rules() of '1', not behind 'free'", x.tell("1"), -1);
    due("rules() of 'free 1'", x.tell("free 1"), 1);
    due("rules() of 'rank 1 1'", x.tell("rank 1 1"), 1);
    due("rules() of nothing", x.rules(), 0);
    due("rules() of 'x free'", x.tell("x free"), -1);
    due("rules() of nothing after a bad text", x.rules(), 0);
  }

  private static void rulesStay() {
    sentence = "3: rules stay when a word cannot stand";
    String[] bad = {"x", "rank 0 1 points 0 1 x", "free 1 note 0 1 note 1", "mark 0 1 9 mark 0 1", "tunnel 0 5 free 1000000"};
    for (String text : bad) {
      Lists x = packed("points 0 7 rank 0 2 free 3 mark 0 5 3 tunnel 0 2 note 1 4 step 0 0 1", 0, 1500, 1, 5, NONE, 1);
      String before = x.state();
      due("rules() of '" + text + "'", x.tell(text) < 0, true);
      due("state after '" + text + "'", x.state(), before.replace("truetrue14", "falsetrue14"));
      due("test(2, 0, 0)", x.test(2, 0, 0), 1);
    }
  }

  private static void eightNotes() {
    sentence = "8 notes at most of each language";
    for (int l = 0; l < 4; l++) {
      String seven = "";
      for (int i = 1; i < 8; i++) seven += "note " + l + " " + i + " ";
      String eight = seven + "note " + l + " 7 ";
      Lists x = new Lists();
      due("rules() of eight", x.tell(eight), 8);
      due("notes", x.notes(l), "1 2 3 4 5 6 7 7");
      due("rules() of nine", x.tell(eight + "note " + l + " 8"), -26);
      due("rules() of nine, where N is missing", x.tell(eight + "note " + l), -26);
      due("notes after refused ones", x.notes(l), "1 2 3 4 5 6 7 7");
      due("rules() of eight and one of another", x.tell(eight + "note " + (l + 1) % 4 + " 5"), 9);
      due("rules() of seven and no number", x.tell(seven + "note " + l + " x"), -24);
    }
  }

  private static void allNotesFull() {
    sentence = "3: a word can't stand with which there would be too many notes, whatever comes behind it";
    String all = "";
    for (int l = 3; l >= 0; l--) all += ("note " + l + " 0 ").repeat(8);
    String butOne = all.substring("note 3 0 ".length());
    dueRules(all, 32);
    dueRules(all + "note", -97);
    dueRules(all + "note 0 1", -97);
    dueRules(all + "free 1 note", -99);
    dueRules(butOne + "note", -95);
    dueRules(butOne + "note 0", -95);
    dueRules(butOne + "note 3", -96);
    dueRules(butOne + "note 3 1 note", -97);
  }

  private static void sixMarks() {
    sentence = "a class has marks for 6 different G at most";
    String five = "mark 2 1 1 mark 2 2 1 mark 2 3 1 mark 2 4 1 mark 2 5 1 ";
    String six = five + "mark 2 0 1 ";
    dueRules(six, 6);
    dueRules(six + "mark", -26);
    dueRules(six + "mark 2", -27);
    dueRules(six + "mark 2 6", -27);
    dueRules(six + "mark 2 6 1", -27);
    dueRules(six + "mark 2 999999 1", -27);
    dueRules(six + "mark 2 0 9", 7);
    dueRules(six + "mark 2 000001 9 mark 2 5 9", 8);
    dueRules(six + "mark 2 5 0", -28);
    dueRules(six + "mark 3 6 1", 7);
    for (int c = 0; c < 9; c += 8) {
      String full = six.replace("mark 2", "mark " + c);
      dueRules(full, 6);
      dueRules(full + "mark " + c + " 6 1", -27);
      dueRules(full + "mark " + c + " 4 9", 7);
    }
    dueRules(five + "mark 2 1 2 mark 2 1 3 mark 2 6 1", 8);
    dueRules(five + "mark 2 1 2 mark 2 6 1 mark 2 7 1", -31);
  }

  private static void toldAgain() {
    sentence = "told again, what was told last counts";
    Lists x = packed("points 0 9 points 1 5 points 0 4 rank 0 1 rank 0 0 tunnel 0 5 tunnel 0 2 free 9 free 8", 0, 1, 1, 1, NONE, 1);
    due("points()", x.points(), 9);
    due("names", x.names(), "0 1");
    due("exempt()", x.exempt(), false);
    due("tunnel()", x.tunnel(), 2);
    due("rules()", x.tell("step 0 0 1 class 0 0 2 class 0 1 3 step 0 1 4 step 0 0 5 class 0 0 6 mark 0 1 2 mark 0 1 3"), 8);
    due("mark(0)", x.mark(0), 3);
    due("test(2, 0, 1), a step told last", x.test(2, 0, 1), 4);
    due("bottle", x.bottle(NONE, 1), 3);
    due("test(3, 0, 0), a class told last", x.test(3, 0, 0), -7);
  }

  private static void bottleRange() {
    sentence = "4: a bottle is of a class or unknown, of 1 .. 100000 grams";
    Lists x = new Lists();
    for (int cls : new int[] {-2, 9, MIN, MAX, -10, 16}) due("bottle(" + cls + ", 1)", x.bottle(cls, 1), NONE);
    for (long grams : new long[] {0, -1, 100001, CUT + 1, -CUT + 1, Long.MIN_VALUE, Long.MAX_VALUE}) {
      due("bottle(0, " + grams + ")", x.bottle(0, grams), NONE);
      due("bottle(NONE, " + grams + ")", x.bottle(NONE, grams), NONE);
    }
    due("bottle(0, 1)", x.bottle(0, 1), 0);
    due("bottle(8, 100000)", x.bottle(8, 100000), 1);
    due("bottle(NONE, 1)", x.bottle(NONE, 1), 2);
    due("bottle(NONE, 100000)", x.bottle(NONE, 100000), 3);
    x.box(0, 100001, 8);
    due("pack", x.pack(PLENTY), 1);
    due("sheet", x.sheet(), "0 1 0\n8 100000 0\n");
  }

  private static void eightBottles() {
    sentence = "4: none when there are 8 bottles";
    Lists x = new Lists();
    for (int i = 0; i < 7; i++) due("bottle", x.bottle(i, 1), i);
    due("bottle(9, 1), the eighth, refused", x.bottle(9, 1), NONE);
    due("boxOf(7)", x.boxOf(7), NONE);
    due("refuse(7, 1)", x.refuse(7, 1), NONE);
    due("bottle, the eighth", x.bottle(7, 1), 7);
    due("bottle, the ninth", x.bottle(0, 1), NONE);
    due("refuse(7, 1)", x.refuse(7, 1), 1);
    due("bottle when one is refused", x.bottle(0, 1), NONE);
    due("refuse(8, 1)", x.refuse(8, 1), NONE);
  }

  private static void boxRange() {
    sentence = "5: a box is of a kind 0 .. 3, for 0 .. 1000000 grams and 0 .. 8 bottles";
    Lists x = new Lists();
    for (int kind : new int[] {-1, 4, MIN, MAX}) due("box(" + kind + ", 1, 1)", x.box(kind, 1, 1), NONE);
    for (long grams : NO_BOX_GRAMS) due("box(0, " + grams + ", 1)", x.box(0, grams, 1), NONE);
    for (int n : new int[] {-1, 9, MIN, MAX}) due("box(0, 1, " + n + ")", x.box(0, 1, n), NONE);
    due("box(0, 0, 0)", x.box(0, 0, 0), 0);
    due("box(3, 1000000, 8)", x.box(3, 1000000, 8), 1);
    due("box(1, 0, 8)", x.box(1, 0, 8), 2);
    due("box(2, 1000000, 0)", x.box(2, 1000000, 0), 3);
    for (int i = 0; i < 8; i++) x.bottle(0, 100000);
    due("pack, all in the one with room", x.pack(PLENTY), 1);
    due("boxes", x.boxes(8), "1 1 1 1 1 1 1 1");
  }

  private static void fiveBoxes() {
    sentence = "5: none when there are 5 boxes";
    Lists x = new Lists();
    x.bottle(0, 10);
    for (int i = 0; i < 4; i++) due("box", x.box(0, 9, 1), i);
    due("box, the fifth, refused", x.box(0, 10, 9), NONE);
    due("absorber(4, 0)", x.absorber(4, 0), false);
    due("pack", x.pack(PLENTY), NONE);
    due("box, the fifth", x.box(0, 9, 1), 4);
    due("box, the sixth", x.box(0, 10, 1), NONE);
    due("absorber(4, 0)", x.absorber(4, 0), true);
    due("absorber(5, 0)", x.absorber(5, 0), false);
    due("pack", x.pack(PLENTY), NONE);
  }

  private static void absorberRange() {
    sentence = "6: an absorber becomes 0 .. 1000000 grams; false when there is none such";
    Lists x = new Lists();
    due("absorber(0, 0) without a box", x.absorber(0, 0), false);
    x.box(0, 1000000, 8);
    x.bottle(0, 1);
    for (int box : new int[] {-1, 1, 5, MIN, MAX}) due("absorber(" + box + ", 0)", x.absorber(box, 0), false);
    due("absorber(0, 999999)", x.absorber(0, 999999), true);
    for (long grams : NO_BOX_GRAMS) due("absorber(0, " + grams + ")", x.absorber(0, grams), false);
    due("pack with 999999 grams", x.pack(PLENTY), 1);
    due("absorber(0, 1000000)", x.absorber(0, 1000000), true);
    due("pack with 1000000 grams", x.pack(PLENTY), NONE);
    due("absorber(0, 0)", x.absorber(0, 0), true);
    due("pack with 0 grams", x.pack(PLENTY), 1);
    due("absorber(0, 5), not 5 more", x.absorber(0, 5), true);
    due("absorber(0, 999999), not 999999 more", x.absorber(0, 999999), true);
    due("pack", x.pack(PLENTY), 1);
  }

  private static void boxOfSoManyBottles() {
    sentence = "not more bottles in a box than it is for";
    for (int n = 0; n <= 8; n++) {
      Lists x = new Lists();
      x.box(0, 1000, n);
      for (int i = 0; i < n; i++) x.bottle(0, 1);
      due("pack of " + n + " in a box for " + n, x.pack(PLENTY), n == 0 ? 0 : 1);
      if (n < 8) {
        x.bottle(0, 1);
        due("pack of one more", x.pack(PLENTY), NONE);
        x.refuse(0, 1);
        due("pack when one is refused", x.pack(PLENTY), n == 0 ? 0 : 1);
      }
    }
  }

  private static void boxOfSoManyGrams() {
    sentence = "not more grams in a box than it is for";
    Lists x = new Lists();
    x.box(0, 300, 8);
    x.bottle(0, 100);
    x.bottle(1, 199);
    x.bottle(2, 1);
    due("pack of as many", x.pack(PLENTY), 1);
    x.bottle(3, 1);
    due("pack of one more", x.pack(PLENTY), NONE);
    x.box(0, 1, 8);
    due("pack with one more box", x.pack(PLENTY), 2);
    due("boxes", x.boxes(4), "0 0 0 1");
    Lists none = new Lists();
    none.box(0, 0, 8);
    due("pack of nothing in a box for 0 grams", none.pack(PLENTY), 0);
    none.bottle(0, 1);
    due("pack of a gram in a box for 0 grams", none.pack(PLENTY), NONE);
  }

  private static void absorberTakesGrams() {
    sentence = "the grams and the absorber's are not more than a box is for";
    Lists x = new Lists();
    x.box(0, 300, 8);
    x.box(0, 300, 8);
    x.bottle(0, 100);
    x.bottle(0, 100);
    x.absorber(0, 100);
    due("pack with as much absorber", x.pack(PLENTY), 1);
    due("boxes", x.boxes(2), "0 0");
    x.absorber(0, 101);
    due("pack with a gram more", x.pack(PLENTY), 1);
    due("boxes", x.boxes(2), "1 1");
    x.absorber(1, 200);
    due("pack with both", x.pack(PLENTY), 2);
    due("boxes", x.boxes(2), "0 1");
    x.absorber(1, 201);
    due("pack with too much", x.pack(PLENTY), NONE);
  }

  private static void boxThatGetsNone() {
    sentence = "in each box that gets some";
    Lists x = new Lists();
    x.box(0, 0, 0);
    x.absorber(0, 1000000);
    due("pack of nothing", x.pack(PLENTY), 0);
    due("kept() of nothing", x.kept(), true);
    x.box(0, 5, 1);
    x.bottle(0, 5);
    due("pack beside a box whose absorber is too heavy", x.pack(PLENTY), 1);
    due("boxOf(0)", x.boxOf(0), 1);
    due("kept()", x.kept(), true);
  }

  private static void keepApart() {
    sentence = "bottles of two classes (perhaps the same) that are apart never stand in one box";
    Lists x = told("apart 3 3 apart 1 2");
    x.box(0, 1000, 8);
    x.box(0, 1000, 8);
    x.bottle(3, 1);
    due("pack of one that is apart from its own", x.pack(PLENTY), 1);
    x.bottle(3, 1);
    due("pack of two of them", x.pack(PLENTY), 2);
    due("boxes", x.boxes(2), "0 1");
    x.bottle(3, 1);
    due("pack of three of them", x.pack(PLENTY), NONE);
    x.refuse(2, 1);
    x.bottle(2, 1);
    x.bottle(2, 1);
    x.bottle(1, 1);
    due("pack of the other two classes", x.pack(PLENTY), 2);
    due("boxes", x.boxes(6), "0 1 -1 0 0 1");
    due("rules() of none that are apart", x.tell("apart 3 4"), 1);
    due("pack", x.pack(PLENTY), 1);
  }

  private static void boxFreeForOthersAgain() {
    sentence = "no two that keep apart in one box, when another stood there in a way that failed";
    Lists x = told("apart 0 1");
    x.box(0, 10, 8);
    x.box(0, 20, 8);
    x.bottle(0, 10);
    x.bottle(1, 10);
    x.bottle(0, 10);
    due("pack", x.pack(PLENTY), 2);
    due("boxes", x.boxes(3), "1 0 1");
  }

  private static void fewestBoxes() {
    sentence = "the best needs the fewest boxes";
    Lists x = new Lists();
    x.box(0, 100, 1);
    x.box(0, 100, 1);
    x.box(0, 200, 2);
    x.bottle(0, 100);
    x.bottle(0, 100);
    due("pack, one box although a greater one", x.pack(PLENTY), 1);
    due("boxes", x.boxes(2), "2 2");
    x.absorber(2, 1);
    due("pack when they do not go together", x.pack(PLENTY), 2);
    due("boxes", x.boxes(2), "0 1");
    Lists all = new Lists();
    for (int i = 0; i < 5; i++) all.box(0, 1, 1);
    for (int i = 0; i < 5; i++) {
      all.bottle(0, 1);
      due("pack of " + (i + 1), all.pack(PLENTY), i + 1);
    }
    due("boxes", all.boxes(5), "0 1 2 3 4");
    all.bottle(0, 1);
    due("pack of six", all.pack(PLENTY), NONE);
  }

  private static void firstOfTheFewest() {
    sentence = "of those it is the first: the lesser box to the first bottle for which they differ";
    Lists x = new Lists();
    x.box(0, 30, 8);
    x.box(0, 20, 8);
    x.box(0, 30, 8);
    x.bottle(0, 20);
    x.bottle(0, 10);
    x.bottle(0, 20);
    x.bottle(0, 10);
    due("pack", x.pack(PLENTY), 2);
    due("boxes", x.boxes(4), "0 0 2 2");
    x.absorber(0, 30);
    due("pack without the first box", x.pack(PLENTY), NONE);
    x.absorber(0, 10);
    due("pack with less in the first box", x.pack(PLENTY), 3);
    due("boxes", x.boxes(4), "0 1 2 1");
    x.refuse(3, 1);
    due("pack of three", x.pack(PLENTY), 2);
    due("boxes of three", x.boxes(4), "0 2 2 -1");
  }

  private static void packNone() {
    sentence = "7: none when there is no packing";
    Lists x = new Lists();
    due("pack of nothing without boxes", x.pack(PLENTY), 0);
    x.bottle(0, 5);
    due("pack of a bottle without boxes", x.pack(PLENTY), NONE);
    due("boxOf(0)", x.boxOf(0), NONE);
    x.box(0, 4, 1);
    due("pack with a box that is too small", x.pack(PLENTY), NONE);
    x.box(0, 5, 1);
    due("pack with one that is not", x.pack(PLENTY), 1);
    x.bottle(NONE, 100);
    due("pack with an unknown one that would not fit", x.pack(PLENTY), 1);
  }

  private static void moreWaysThanNodes() {
    sentence = "7: none when there are more ways than nodes";
    long[][] boxesBottlesWays = {{1, 8, 1}, {2, 1, 2}, {2, 8, 256}, {3, 3, 27}, {5, 1, 5}, {5, 8, 390625}};
    for (long[] row : boxesBottlesWays) {
      Lists x = new Lists();
      for (int i = 0; i < row[0]; i++) x.box(0, 1000000, 8);
      for (int i = 0; i < row[1]; i++) x.bottle(0, 1);
      due("pack(" + (row[2] - 1) + ")", x.pack(row[2] - 1), NONE);
      due("pack(-1)", x.pack(-1), NONE);
      due("pack(MIN)", x.pack(Long.MIN_VALUE), NONE);
      due("proved() when nothing was found", x.proved(), false);
      due("pack(" + row[2] + ")", x.pack(row[2]), 1);
      due("pack(" + (row[2] + 1) + ")", x.pack(row[2] + 1), 1);
      due("pack(MAX)", x.pack(Long.MAX_VALUE), 1);
    }
    Lists some = new Lists();
    for (int i = 0; i < 2; i++) some.box(0, 1000, 8);
    for (int i = 0; i < 4; i++) some.bottle(i == 1 ? NONE : 0, 1);
    some.refuse(3, 1);
    due("pack(3) of four, two of which are to be packed", some.pack(3), NONE);
    due("pack(4) of four, two of which are to be packed", some.pack(4), 1);
  }

  private static void waysOfNothing() {
    sentence = "ways are how many boxes there are, to the power of how many bottles are to be packed";
    for (int boxes = 0; boxes <= 5; boxes++) {
      Lists x = new Lists();
      for (int i = 0; i < boxes; i++) x.box(0, 1000, 8);
      due("pack(0) of nothing, " + boxes + " boxes", x.pack(0), NONE);
      due("proved()", x.proved(), false);
      due("pack(1) of nothing, " + boxes + " boxes", x.pack(1), 0);
      due("proved()", x.proved(), true);
    }
  }

  private static void boxOfNone() {
    sentence = "8: none when the packing gives a bottle no box";
    Lists x = new Lists();
    x.box(0, 10, 8);
    x.bottle(0, 1);
    due("boxOf(0) before one was found", x.boxOf(0), NONE);
    x.bottle(NONE, 1);
    x.bottle(1, 1);
    x.refuse(2, 1);
    due("pack", x.pack(PLENTY), 1);
    x.bottle(0, 1);
    due("boxes", x.boxes(4), "0 -1 -1 -1");
    for (int b : new int[] {-1, 4, 7, 8, MIN, MAX}) due("boxOf(" + b + ")", x.boxOf(b), NONE);
  }

  private static void provedOnlyWhenFound() {
    sentence = "9: whether a packing was found";
    Lists x = new Lists();
    due("proved() at first", x.proved(), false);
    x.bottle(0, 1);
    due("pack without a box", x.pack(PLENTY), NONE);
    due("proved() when none was found", x.proved(), false);
    x.box(0, 1, 1);
    due("pack(0)", x.pack(0), NONE);
    due("proved() when there were too many ways", x.proved(), false);
    due("pack(1)", x.pack(1), 1);
    due("proved() when one was found", x.proved(), true);
    due("kept(), which tells nothing", x.kept(), true);
    due("proved() asked again", x.proved(), true);
  }

  private static Lists proving() {
    Lists x = told("step 0 0 0 class 0 1 3 class 0 2 0");
    x.box(0, 100, 8);
    x.bottle(0, 1);
    x.bottle(NONE, 1);
    x.bottle(1, 1);
    due("refuse(2, 1)", x.refuse(2, 1), 1);
    due("pack", x.pack(PLENTY), 1);
    due("proved()", x.proved(), true);
    return x;
  }

  private static void provedAfterRefused() {
    sentence = "9: nothing that was told since was not refused (refused calls)";
    Lists x = proving();
    due("unit(256)", x.unit(256), false);
    due("bottle(9, 1)", x.bottle(9, 1), NONE);
    due("box(4, 1, 1)", x.box(4, 1, 1), NONE);
    due("absorber(1, 1)", x.absorber(1, 1), false);
    due("refuse(2, 1)", x.refuse(2, 1), NONE);
    due("test(1, 0, 3)", x.test(1, 0, 3), -100);
    due("proved()", x.proved(), true);
  }

  private static void dueToldSince(String call, long want, ToLongFunction<Lists> telling) {
    Lists x = proving();
    due(call, telling.applyAsLong(x), want);
    due("proved() after " + call, x.proved(), false);
    due("unit(256)", x.unit(256), false);
    due("proved() after a refused call, too", x.proved(), false);
    due("pack", x.pack(PLENTY) != NONE, true);
    due("proved() when packed anew", x.proved(), true);
  }

  private static void provedAfterTold() {
    sentence = "9: nothing that was told since was not refused (also no byte of a text)";
    dueToldSince("unit(32)", 1, x -> of(x.unit(32)));
    dueToldSince("bottle(NONE, 1)", 3, x -> x.bottle(NONE, 1));
    dueToldSince("bottle(0, 1)", 3, x -> x.bottle(0, 1));
    dueToldSince("box(0, 0, 0)", 1, x -> x.box(0, 0, 0));
    dueToldSince("absorber(0, 0), as it was", 1, x -> of(x.absorber(0, 0)));
    dueToldSince("refuse(0, 1)", 2, x -> x.refuse(0, 1));
    dueToldSince("refuse(1, 1) of an unknown one", 2, x -> x.refuse(1, 1));
    dueToldSince("test(1, 0, 0) to where it is", 0, x -> x.test(1, 0, 0));
    dueToldSince("test(1, 0, 1)", -4, x -> x.test(1, 0, 1));
    dueToldSince("test(1, 0, 2)", -1, x -> x.test(1, 0, 2));
  }

  private static void provedAfterRules() {
    sentence = "9: rules() counts in any case";
    dueToldSince("rules() of nothing", 0, x -> x.rules());
    Lists x = proving();
    x.unit('x');
    due("pack behind a byte", x.pack(PLENTY), 1);
    due("proved()", x.proved(), true);
    due("rules() that is refused", x.rules(), -1);
    due("proved() after it", x.proved(), false);
    x.say("free 1");
    due("pack behind bytes", x.pack(PLENTY), 1);
    due("proved()", x.proved(), true);
    due("rules()", x.rules(), 1);
    due("proved() after it", x.proved(), false);
  }

  private static void provedAfterPackThatFindsNone() {
    sentence = "9: a pack that finds none leaves it as it was";
    Lists x = proving();
    due("pack(0)", x.pack(0), NONE);
    due("proved()", x.proved(), true);
    x.absorber(0, 100);
    due("proved()", x.proved(), false);
    due("pack without room", x.pack(PLENTY), NONE);
    due("proved()", x.proved(), false);
  }

  private static void keptBeforeFound() {
    sentence = "10: false before one was found";
    Lists x = new Lists();
    due("kept() at first", x.kept(), false);
    due("pack(0) of nothing", x.pack(0), NONE);
    due("kept() when there were too many ways", x.kept(), false);
    x.bottle(0, 5);
    due("pack without a box", x.pack(PLENTY), NONE);
    due("kept() when there was none", x.kept(), false);
    x.refuse(0, 1);
    due("kept() when there is nothing to pack", x.kept(), false);
    due("pack(1) of nothing", x.pack(1), 0);
    due("kept() when one of nothing was found", x.kept(), true);
  }

  /** A packing gives boxes to just the bottles that are to be packed; one that holds others is none of these. */
  private static void keptOfTheBottlesNow() {
    sentence = "10: a packing still, of the bottles that are to be packed now";
    Lists x = packed("class 0 0 1 step 0 1 2", 0, 400, 0, 400, NONE, 100);
    due("kept() when just found", x.kept(), true);
    due("bottle(9, 1)", x.bottle(9, 1), NONE);
    due("kept() after a refused bottle", x.kept(), true);
    due("bottle(NONE, 1)", x.bottle(NONE, 1), 3);
    due("kept() with one more unknown one", x.kept(), true);
    due("test(3, 0, 1)", x.test(3, 0, 1), 2);
    due("kept() when an unknown one comes to another step", x.kept(), true);
    due("refuse(3, 1)", x.refuse(3, 1), 1);
    due("kept() when an unknown one is refused", x.kept(), true);
    due("test(2, 0, 0)", x.test(2, 0, 0), -2);
    due("kept() when one has become known", x.kept(), false);
    due("refuse(2, 1)", x.refuse(2, 1), 2);
    due("kept() when that one is refused", x.kept(), true);
    due("bottle(8, 1)", x.bottle(8, 1), 4);
    due("kept() with one more known one", x.kept(), false);
    due("refuse(4, 0)", x.refuse(4, 0), NONE);
    due("kept() after a refusal that is refused", x.kept(), false);
    due("refuse(4, 9)", x.refuse(4, 9), 3);
    due("kept() when it is refused", x.kept(), true);
    due("refuse(1, 1)", x.refuse(1, 1), 4);
    due("kept() when one that it holds is refused", x.kept(), false);
    due("pack(0)", x.pack(0), NONE);
    due("kept() after a pack that finds none", x.kept(), false);
    due("pack", x.pack(PLENTY), 1);
    due("kept() when found anew", x.kept(), true);
  }

  private static void keptByAllAsItIsNow() {
    sentence = "10: a packing still, by all as it is now";
    Lists x = new Lists();
    x.box(0, 1000, 2);
    x.box(0, 0, 0);
    x.bottle(0, 400);
    x.bottle(1, 400);
    due("pack", x.pack(PLENTY), 1);
    due("absorber(0, 200)", x.absorber(0, 200), true);
    due("kept() with as much absorber", x.kept(), true);
    due("absorber(0, 201)", x.absorber(0, 201), true);
    due("kept() with a gram more", x.kept(), false);
    due("absorber(0, 1000001)", x.absorber(0, 1000001), false);
    due("absorber(0, 200)", x.absorber(0, 200), true);
    due("kept() when it is as before", x.kept(), true);
    due("absorber(1, 1000000)", x.absorber(1, 1000000), true);
    due("kept(), a box that gets none", x.kept(), true);
    due("rules()", x.tell("apart 0 0 apart 1 1 apart 0 2"), 3);
    due("kept() when others keep apart", x.kept(), true);
    due("rules()", x.tell("apart 1 0"), 1);
    due("kept() when they keep apart", x.kept(), false);
    due("rules()", x.tell("apart 1"), -3);
    due("kept() when rules stay", x.kept(), false);
    due("rules()", x.rules(), 0);
    due("kept() when none keep apart", x.kept(), true);
    due("box", x.box(0, 1000, 8), 2);
    due("kept() with a better box", x.kept(), true);
  }

  private static void begun1000Grams() {
    sentence = "points for each begun 1000 grams of the class";
    long[][] gramsBegun = {{1, 1}, {999, 1}, {1000, 1}, {1001, 2}, {2000, 2}, {2001, 3}, {99000, 99}, {99001, 100}, {100000, 100}};
    for (long[] row : gramsBegun) {
      due("points() of " + row[0] + " grams", packed("points 4 3", 4, row[0]).points(), 3 * row[1]);
    }
    due("points() of nothing", packed("points 4 3").points(), 0);
    due("points() of other classes", packed("points 4 3", 3, 1, 5, 1).points(), 0);
    due("points() of an unknown one", packed("points 0 3", 0, 1, NONE, 1).points(), 3);
    due("points() of the most", packed("points 0 1000", 0, 100000, 0, 100000, 0, 100000, 0, 100000, 0, 100000, 0, 100000,
      0, 100000, 0, 100000).points(), 800000);
  }

  private static void pointsOfAClassTogether() {
    sentence = "its points: for each class, of all grams of it together";
    due("points() of two that make 1000", packed("points 0 3 points 1 10", 0, 999, 0, 1).points(), 3);
    due("points() of two that make 1001", packed("points 0 3 points 1 10", 0, 999, 0, 2).points(), 6);
    due("points() of two classes", packed("points 0 3 points 1 10", 0, 999, 1, 1).points(), 13);
    Lists boxes = told("points 0 3");
    for (int i = 0; i < 2; i++) boxes.box(0, 600, 1);
    for (int i = 0; i < 2; i++) boxes.bottle(0, 500);
    due("pack", boxes.pack(PLENTY), 2);
    due("points() of two boxes", boxes.points(), 3);
  }

  private static void exemptAtMostFree() {
    sentence = "12: exempt when its points are at most what is free (one of nothing, too)";
    due("exempt() at one less", packed("points 0 5 free 11", 0, 1001).exempt(), true);
    due("exempt() at as many", packed("points 0 5 free 10", 0, 1001).exempt(), true);
    due("exempt() at one more", packed("points 0 5 free 9", 0, 1001).exempt(), false);
    due("exempt() of no points", packed("points 1 5", 0, 1001).exempt(), true);
    due("exempt() of nothing", packed("").exempt(), true);
    due("exempt() before one was found", told("points 0 5").exempt(), true);
    Lists x = packed("points 0 5 free 10", 0, 1001);
    due("rules()", x.tell("points 0 5 free 9"), 2);
    due("exempt() by the rules now", x.exempt(), false);
    due("rules()", x.tell("points 0 5 free 10 x"), -6);
    due("exempt() after a bad text", x.exempt(), false);
    due("rules()", x.tell("free 10 points 0 5"), 2);
    due("exempt() by the rules now", x.exempt(), true);
  }

  private static void nameNone() {
    sentence = "13: the k-th class, from 0 on; none when there is none such";
    Lists x = new Lists();
    due("name(0) before one was found", x.name(0), NONE);
    Lists y = packed("", 8, 1, 0, 1, 8, 1, NONE, 1);
    due("name(0)", y.name(0), 0);
    due("name(1)", y.name(1), 8);
    for (int k : new int[] {-1, 2, 3, 8, 9, 10, MIN, MAX}) due("name(" + k + ")", y.name(k), NONE);
    due("names of eight", packed("", 8, 1, 7, 1, 6, 1, 5, 1, 4, 1, 3, 1, 2, 1, 1, 1).names(), "1 2 3 4 5 6 7 8");
    due("names of nothing", packed("").names(), "");
  }

  private static void orderNone() {
    sentence = "14: the k-th bottle; none when there is none such";
    due("order(0) before one was found", new Lists().order(0), NONE);
    Lists x = packed("", 8, 1, 0, 1, 8, 1, NONE, 1);
    due("orders", x.orders(), "1 0 2");
    for (int k : new int[] {-1, 3, 4, 7, 8, 9, MIN, MAX}) due("order(" + k + ")", x.order(k), NONE);
    due("orders of eight", packed("", 8, 1, 7, 1, 8, 1, 5, 1, 4, 1, 3, 1, 4, 1, 1, 1).orders(), "7 5 4 6 3 1 0 2");
    due("orders of nothing", packed("").orders(), "");
  }

  private static void ranksThenNumbers() {
    sentence = "the order is by ranks, then numbers";
    Lists x = packed("rank 0 1 rank 1 1 rank 2 0 rank 3 99 rank 4 98", 4, 1, 3, 1, 1, 1, 0, 1, 5, 1, 2, 1, 0, 1, 5, 1);
    due("names", x.names(), "2 5 0 1 4 3");
    due("orders", x.orders(), "5 4 7 3 6 2 0 1");
    due("rules()", x.tell("rank 0 99"), 1);
    due("names by the rules now", x.names(), "1 2 3 4 5 0");
    due("orders by the rules now", x.orders(), "2 5 1 0 4 7 3 6");
    due("rules()", x.tell("rank 0 100"), -3);
    due("names after a bad text", x.names(), "1 2 3 4 5 0");
  }

  private static void paperNone() {
    sentence = "15: byte i of the paper; none when there is none such";
    due("paper(0) before one was found", new Lists().paper(0), NONE);
    due("paper(0) of nothing", packed("").paper(0), NONE);
    Lists x = packed("points 0 10 rank 0 1", 0, 999, 8, 1, 0, 2);
    due("sheet", x.sheet(), "8 1 0\n0 1001 20\n");
    due("paper(0)", x.paper(0), '8');
    due("paper(5)", x.paper(5), 10);
    due("paper(15), the last", x.paper(15), 10);
    for (int i : new int[] {-1, 16, 17, 161, 162, 163, MIN, MAX}) due("paper(" + i + ")", x.paper(i), NONE);
  }

  private static void paperLongest() {
    sentence = "15: for each of its classes, all in decimals";
    StringBuilder text = new StringBuilder();
    StringBuilder want = new StringBuilder();
    for (int c = 1; c < 9; c++) {
      text.append("points ").append(c).append(" 1000 ");
      want.append(c).append(" 100000 100000\n");
    }
    Lists x = packed(text.toString(), 1, 100000, 2, 100000, 3, 100000, 4, 100000, 5, 100000, 6, 100000, 7, 100000, 8, 100000);
    due("sheet of the most classes", x.sheet(), want.toString());
    Lists one = packed("points 8 1000", 8, 100000, 8, 100000, 8, 100000, 8, 100000, 8, 100000, 8, 100000, 8, 100000, 8, 100000);
    due("sheet of the most grams", one.sheet(), "8 800000 800000\n");
    due("sheet of tens", packed("points 0 10", 0, 10, 1, 9, 2, 100, 3, 99).sheet(), "0 10 10\n1 9 0\n2 100 0\n3 99 0\n");
  }

  private static void markRange() {
    sentence = "16: none when there is no such class; 0 when the load has none of it";
    Lists none = told("mark 0 0 5 mark 8 0 6");
    due("mark(0) before one was found", none.mark(0), 0);
    due("mark(9) before one was found", none.mark(9), NONE);
    Lists x = packed("mark 0 0 5 mark 8 0 6 mark 1 0 7", 0, 1, 8, 1, NONE, 1, 2, 1);
    due("mark(0)", x.mark(0), 5);
    due("mark(8)", x.mark(8), 6);
    due("mark(1), none of it", x.mark(1), 0);
    due("mark(2), no mark", x.mark(2), 0);
    for (int cls : new int[] {-1, 9, MIN, MAX}) due("mark(" + cls + ")", x.mark(cls), NONE);
  }

  private static void markReached() {
    sentence = "from G grams of the class on its mark has size N";
    due("mark(0) at a gram less", packed("mark 0 100 3", 0, 99).mark(0), 0);
    due("mark(0) at as many", packed("mark 0 100 3", 0, 100).mark(0), 3);
    due("mark(0) at a gram more", packed("mark 0 100 3", 0, 101).mark(0), 3);
    due("mark(0) of two together", packed("mark 0 100 3", 0, 50, 0, 50).mark(0), 3);
    due("mark(0) of two classes", packed("mark 0 100 3", 0, 50, 1, 50).mark(0), 0);
    due("mark(0) from 0 grams on", packed("mark 0 0 3", 0, 1).mark(0), 3);
    due("mark(0) from 1 gram on", packed("mark 0 1 3", 0, 1).mark(0), 3);
    due("mark(0) from 2 grams on", packed("mark 0 2 3", 0, 1).mark(0), 0);
    due("mark(0) from 800000 on", packed("mark 0 800000 3", 0, 100000, 0, 100000, 0, 100000, 0, 100000, 0, 100000, 0, 100000,
      0, 100000, 0, 100000).mark(0), 3);
  }

  private static void markThatActs() {
    sentence = "in the order in which their G were told first, the last one whose G is reached acts";
    due("mark(0), rising", packed("mark 0 1 1 mark 0 50 2 mark 0 99 3", 0, 98).mark(0), 2);
    due("mark(0), falling", packed("mark 0 99 3 mark 0 50 2 mark 0 1 1", 0, 99).mark(0), 1);
    due("mark(0), the last not reached", packed("mark 0 1 1 mark 0 50 2 mark 0 99 3", 0, 50).mark(0), 2);
    due("mark(0), only the middle one", packed("mark 0 99 3 mark 0 50 2 mark 0 98 1", 0, 97).mark(0), 2);
    due("mark(0), the first told again", packed("mark 0 1 1 mark 0 50 2 mark 0 1 9", 0, 50).mark(0), 2);
    due("mark(0), the first told again, alone", packed("mark 0 1 1 mark 0 50 2 mark 0 1 9", 0, 49).mark(0), 9);
    due("mark(0), the sixth", packed("mark 0 1 1 mark 0 2 2 mark 0 3 3 mark 0 4 4 mark 0 5 5 mark 0 6 6", 0, 6).mark(0), 6);
    due("mark(0), the fifth", packed("mark 0 1 1 mark 0 2 2 mark 0 3 3 mark 0 4 4 mark 0 5 5 mark 0 6 6", 0, 5).mark(0), 5);
    Lists x = packed("mark 0 5 1 mark 0 6 2 mark 1 5 3 mark 1 6 4", 0, 6, 1, 5);
    due("mark(0) beside another class", x.mark(0), 2);
    due("mark(1) beside another class", x.mark(1), 3);
  }

  private static void tunnelGreatest() {
    sentence = "17: the greatest code of a class of the load";
    Lists x = packed("tunnel 0 1 tunnel 1 5 tunnel 2 4 tunnel 8 2 points 3 1", 0, 1, 2, 1, 8, 1, 3, 1, NONE, 1);
    due("tunnel()", x.tunnel(), 4);
    due("rules()", x.tell("tunnel 8 5 tunnel 0 4 points 3 1"), 3);
    due("tunnel() by the rules now", x.tunnel(), 5);
    due("rules()", x.tell("tunnel 8 6"), -3);
    due("tunnel() after a bad text", x.tunnel(), 5);
  }

  private static void tunnelZero() {
    sentence = "17: 0 when it is exempt, or there is none";
    due("tunnel() above what is free", packed("tunnel 0 3 points 0 2 free 1", 0, 1).tunnel(), 3);
    due("tunnel() at what is free", packed("tunnel 0 3 points 0 2 free 2", 0, 1).tunnel(), 0);
    due("tunnel() of no points", packed("tunnel 0 3", 0, 1).tunnel(), 0);
    due("tunnel() without a code", packed("tunnel 1 3 points 0 2", 0, 1).tunnel(), 0);
    due("tunnel() of nothing", packed("tunnel 0 3 points 0 2").tunnel(), 0);
    due("tunnel() before one was found", told("tunnel 0 3 points 0 2").tunnel(), 0);
  }

  private static void noteNone() {
    sentence = "18: the i-th note, from 0 on; none when there is none such";
    due("note(0, 0) at first", new Lists().note(0, 0), NONE);
    Lists x = told("note 0 5 note 3 0 note 0 5 note 3 999999 note 3 7");
    due("notes(0)", x.notes(0), "5 5");
    due("notes(1)", x.notes(1), "");
    due("notes(2)", x.notes(2), "");
    due("notes(3)", x.notes(3), "0 999999 7");
    for (int l : new int[] {-1, 4, MIN, MAX}) due("note(" + l + ", 0)", x.note(l, 0), NONE);
    for (int i : new int[] {-1, 2, 7, 8, MIN, MAX}) due("note(0, " + i + ")", x.note(0, i), NONE);
    for (int i : new int[] {-1, 3, 8, MIN, MAX}) due("note(3, " + i + ")", x.note(3, i), NONE);
    due("rules()", x.tell("note 0 9 note 0 9 note 0"), -9);
    due("notes(0) after a bad text", x.notes(0), "5 5");
    due("rules()", x.tell("note 1 9"), 1);
    due("notes(0) of the next text", x.notes(0), "");
    due("notes(1) of the next text", x.notes(1), "9");
  }

  private static void refuseRange() {
    sentence = "19: a bottle that there is, a reason 1 .. 9; none when there are none such";
    Lists x = new Lists();
    due("refuse(0, 1) without a bottle", x.refuse(0, 1), NONE);
    for (int i = 0; i < 3; i++) x.bottle(i - 1, 1);
    for (int reason : new int[] {0, 10, -1, MIN, MAX}) due("refuse(0, " + reason + ")", x.refuse(0, reason), NONE);
    for (int b : new int[] {-1, 3, 8, MIN, MAX}) due("refuse(" + b + ", 1)", x.refuse(b, 1), NONE);
    due("refusals after refused calls", x.refusals(), "");
    due("refuse(2, 1)", x.refuse(2, 1), 1);
    due("refuse(0, 9) of an unknown one", x.refuse(0, 9), 2);
    due("refusals", x.refusals(), "21 9");
  }

  private static void refuseTwice() {
    sentence = "19: none when it was refused; else how many were so far";
    Lists x = new Lists();
    for (int i = 0; i < 8; i++) x.bottle(0, 1);
    for (int i = 0; i < 8; i++) {
      due("refuse(" + (7 - i) + ")", x.refuse(7 - i, 1 + i), 1 + i);
      due("refuse(" + (7 - i) + ") again", x.refuse(7 - i, 1 + i), NONE);
      due("refuse(" + (7 - i) + ") again, for another reason", x.refuse(7 - i, 9), NONE);
    }
    due("refusals", x.refusals(), "71 62 53 44 35 26 17 8");
  }

  private static void refusedNone() {
    sentence = "20: the k-th that was refused, from 0 on; none when there is none such";
    Lists x = new Lists();
    due("refused(0) at first", x.refused(0), NONE);
    x.bottle(0, 1);
    x.bottle(0, 1);
    due("refuse(1, 9)", x.refuse(1, 9), 1);
    due("refused(0)", x.refused(0), 19);
    for (int k : new int[] {-1, 1, 2, 7, 8, MIN, MAX}) due("refused(" + k + ")", x.refused(k), NONE);
    due("refuse(0, 1)", x.refuse(0, 1), 2);
    due("refusals", x.refusals(), "19 1");
  }

  private static void testRange() {
    sentence = "21: -100 when there are none such: a bottle, a step 0 .. 9, a result 0 .. 3";
    Lists x = told("step 0 0 9 step 0 3 9 step 9 0 0 step 9 3 0 class 1 0 0");
    due("test(0, 0, 0) without a bottle", x.test(0, 0, 0), -100);
    x.bottle(NONE, 1);
    for (int b : new int[] {-1, 1, 8, MIN, MAX}) due("test(" + b + ", 0, 0)", x.test(b, 0, 0), -100);
    for (int s : new int[] {-1, 10, MIN, MAX}) due("test(0, " + s + ", 0)", x.test(0, s, 0), -100);
    for (int r : new int[] {-1, 4, MIN, MAX}) due("test(0, 0, " + r + ")", x.test(0, 0, r), -100);
    due("test(0, 0, 3) after refused calls", x.test(0, 0, 3), 9);
    for (int s : new int[] {-1, 10, MIN, MAX}) due("test(0, " + s + ", 0)", x.test(0, s, 0), -100);
    for (int r : new int[] {-1, 4, MIN, MAX}) due("test(0, 9, " + r + ")", x.test(0, 9, r), -100);
    due("test(0, 9, 0)", x.test(0, 9, 0), 0);
    due("test(0, 0, 0)", x.test(0, 0, 0), 9);
    due("test(0, 9, 3)", x.test(0, 9, 3), 0);
  }

  private static void testAtAnotherStep() {
    sentence = "21: -100 when it is at another step";
    Lists x = told("step 0 0 2 step 1 0 2 step 2 0 1 class 2 1 5");
    x.bottle(NONE, 1);
    x.bottle(NONE, 1);
    due("test(0, 1, 0)", x.test(0, 1, 0), -100);
    due("test(0, 2, 0)", x.test(0, 2, 0), -100);
    due("test(0, 0, 0)", x.test(0, 0, 0), 2);
    due("test(0, 0, 0) when it was there before", x.test(0, 0, 0), -100);
    due("test(1, 2, 0), where another one is", x.test(1, 2, 0), -100);
    due("test(1, 0, 0)", x.test(1, 0, 0), 2);
    due("test(0, 2, 0)", x.test(0, 2, 0), 1);
    due("test(1, 2, 1)", x.test(1, 2, 1), -6);
    due("test(0, 1, 0)", x.test(0, 1, 0), 2);
  }

  private static void testOfAKnownOne() {
    sentence = "21: -100 when its class is known";
    Lists x = told("class 0 0 8 step 0 1 0");
    x.bottle(0, 1);
    x.bottle(NONE, 1);
    due("test(0, 0, 0) of one that came with its class", x.test(0, 0, 0), -100);
    due("test(1, 0, 1)", x.test(1, 0, 1), 0);
    due("test(1, 0, 0)", x.test(1, 0, 0), -9);
    due("test(1, 0, 0) of one whose class was told", x.test(1, 0, 0), -100);
    due("test(1, 0, 1) of one whose class was told", x.test(1, 0, 1), -100);
    x.box(0, 10, 8);
    due("pack", x.pack(PLENTY), 1);
    due("names", x.names(), "0 8");
  }

  private static void testThatRulesTellNothingOf() {
    sentence = "21: -100 when the rules tell nothing of that";
    Lists x = new Lists();
    x.bottle(NONE, 1);
    due("test(0, 0, 0) without rules", x.test(0, 0, 0), -100);
    due("rules()", x.tell("step 0 1 3 class 1 0 0"), 2);
    due("test(0, 0, 0)", x.test(0, 0, 0), -100);
    due("test(0, 0, 1)", x.test(0, 0, 1), 3);
    for (int r = 0; r < 4; r++) due("test(0, 3, " + r + ")", x.test(0, 3, r), -100);
    due("rules()", x.tell("class 3 2 0"), 1);
    due("test(0, 3, 1)", x.test(0, 3, 1), -100);
    due("test(0, 3, 2) by the rules now", x.test(0, 3, 2), -1);
  }

  private static void testTellsEachClassAndStep() {
    sentence = "21: the step to which that leads, or -1 less the class that it tells";
    for (int c = 0; c < 9; c++) {
      Lists x = told("step 0 0 " + (c + 1) + " class " + (c + 1) + " 3 " + c);
      x.bottle(NONE, 7);
      x.box(0, 7, 1);
      due("pack of an unknown one", x.pack(PLENTY), 0);
      due("test(0, 0, 0)", x.test(0, 0, 0), c + 1);
      due("pack of an unknown one", x.pack(PLENTY), 0);
      due("test(0, " + (c + 1) + ", 3)", x.test(0, c + 1, 3), -1 - c);
      due("pack of a known one", x.pack(PLENTY), 1);
      due("sheet", x.sheet(), c + " 7 0\n");
    }
  }
}
