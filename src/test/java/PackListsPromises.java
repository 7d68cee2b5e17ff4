/** For each promise of the document: ordinary inputs, the edges that it names, and wrong inputs. */
public final class PackListsPromises {
  private static final int NONE = PackLists.NONE;
  private static final long PLENTY = 400000L;

  private static int wrong = 0;
  private static int checks = 0;
  private static String promise = "";

  private static void due(String call, long got, long want) {
    checks++;
    if (got != want) {
      wrong++;
      System.out.println(promise + ": " + call + " answered " + got + ", due is " + want);
    }
  }

  private static void due(String call, boolean got, boolean want) {
    due(call, got ? 1L : 0L, want ? 1L : 0L);
  }

  private static void say(PackLists x, String text) {
    for (int i = 0; i < text.length(); i++) {
      due("unit of '" + text + "'", x.unit(text.charAt(i)), true);
    }
  }

  private static int tell(PackLists x, String text) {
    say(x, text);
    return x.rules();
  }

  private static void dueRules(PackLists x, String text, int want) {
    due("rules() of '" + text + "'", tell(x, text), want);
  }

  private static void duePaper(PackLists x, String want) {
    for (int i = 0; i < want.length(); i++) {
      due("paper(" + i + ")", x.paper(i), want.charAt(i));
    }
    due("paper(-1)", x.paper(-1), NONE);
    due("paper behind its end", x.paper(want.length()), NONE);
    due("paper far behind its end", x.paper(Integer.MAX_VALUE), NONE);
  }

  /** One box for everything, and what is said of a bottle for each two numbers: class and grams. */
  private static PackLists packed(String text, long... classesAndGrams) {
    PackLists x = new PackLists();
    due("rules() at first", tell(x, text) >= 0, true);
    due("box", x.box(0, 1000000, 8), 0);
    for (int i = 0; i + 1 < classesAndGrams.length; i += 2) {
      due("bottle", x.bottle((int) classesAndGrams[i], classesAndGrams[i + 1]), i / 2);
    }
    due("pack", x.pack(PLENTY) != NONE, true);
    return x;
  }

  public static void main(String[] args) {
    newObject();
    unit();
    rulesThatStand();
    rulesThatDoNot();
    rulesNotesAndMarks();
    rulesWhereAllAreFull();
    rulesReplaceRules();
    bottle();
    box();
    absorber();
    packLimits();
    packBest();
    packApart();
    packWays();
    packStays();
    boxOf();
    proved();
    kept();
    points();
    exempt();
    nameAndOrder();
    paper();
    mark();
    tunnel();
    note();
    refuse();
    test();
    System.out.println(checks + " checks, " + wrong + " not as due");
    if (wrong != 0) System.exit(1);
  }

  private static void newObject() {
    promise = "promise 1";
    PackLists x = new PackLists();
    due("NONE", PackLists.NONE, -1);
    due("boxOf(0)", x.boxOf(0), NONE);
    due("proved()", x.proved(), false);
    due("kept()", x.kept(), false);
    due("points()", x.points(), 0);
    due("exempt()", x.exempt(), true);
    due("name(0)", x.name(0), NONE);
    due("order(0)", x.order(0), NONE);
    duePaper(x, "");
    due("mark(0)", x.mark(0), 0);
    due("tunnel()", x.tunnel(), 0);
    due("note(0, 0)", x.note(0, 0), NONE);
    due("refused(0)", x.refused(0), NONE);
    due("refuse(0, 1)", x.refuse(0, 1), NONE);
    due("test(0, 0, 0)", x.test(0, 0, 0), -100);
    due("absorber(0, 0)", x.absorber(0, 0), false);
    due("bottle(0, 1)", x.bottle(0, 1), 0);
    due("box(0, 1, 1)", x.box(0, 1, 1), 0);
    due("rules()", x.rules(), 0);
  }

  private static void unit() {
    promise = "promise 2";
    PackLists x = new PackLists();
    due("unit(-1)", x.unit(-1), false);
    due("unit(256)", x.unit(256), false);
    due("unit(MIN)", x.unit(Integer.MIN_VALUE), false);
    due("unit(MAX)", x.unit(Integer.MAX_VALUE), false);
    due("rules() after refused bytes", x.rules(), 0);
    due("unit(0)", x.unit(0), true);
    due("rules() of a byte 0", x.rules(), -1);
    due("unit(255)", x.unit(255), true);
    due("rules() of a byte 255", x.rules(), -1);

    PackLists full = new PackLists();
    for (int i = 0; i < 1500; i++) due("unit(32)", full.unit(32), true);
    due("unit(32), the 1501st", full.unit(32), false);
    due("rules() of 1500 blanks", full.rules(), 0);
    due("unit(32) afterwards", full.unit(32), true);
  }

  private static void rulesThatStand() {
    promise = "promise 3";
    PackLists x = new PackLists();
    dueRules(x, "", 0);
    dueRules(x, " \n \n", 0);
    dueRules(x, "free 1", 1);
    dueRules(x, "\n free\n\n 1 ", 1);
    dueRules(x, "free 999999", 1);
    dueRules(x, "free 000000", 1);
    dueRules(x, "apart 0 8 apart 8 8", 2);
    dueRules(x, "points 8 1000 points 0 0", 2);
    dueRules(x, "rank 8 99 rank 0 0", 2);
    dueRules(x, "mark 8 999999 9 mark 0 0 1", 2);
    dueRules(x, "tunnel 8 5 tunnel 0 1", 2);
    dueRules(x, "note 3 999999 note 0 0", 2);
    dueRules(x, "step 9 3 9 step 0 0 0", 2);
    dueRules(x, "class 9 3 8 class 0 0 0", 2);
    dueRules(x, "rank 000008 000099", 1);
  }

  private static void rulesThatDoNot() {
    promise = "promise 3";
    PackLists x = new PackLists();
    dueRules(x, "Free 1", -1);
    dueRules(x, "fre 1", -1);
    dueRules(x, "frees 1", -1);
    dueRules(x, "1", -1);
    dueRules(x, "\tfree 1", -1);
    dueRules(x, "free\t1", -1);
    dueRules(x, "free\r\n1", -1);
    dueRules(x, "free", -2);
    dueRules(x, "free free", -2);
    dueRules(x, "free -1", -2);
    dueRules(x, "free +1", -2);
    dueRules(x, "free 1x", -2);
    dueRules(x, "free 1/", -2);
    dueRules(x, "free 1:", -2);
    dueRules(x, "free 0000001", -2);
    dueRules(x, "free 99999999999999999999", -2);
    dueRules(x, "free 1 2", -3);
    dueRules(x, "free 1 rank", -4);
    dueRules(x, "apart 8", -3);
    dueRules(x, "apart 9 8", -2);
    dueRules(x, "apart 8 9", -3);
    dueRules(x, "points 9 0", -2);
    dueRules(x, "points 0 1001", -3);
    dueRules(x, "rank 9 0", -2);
    dueRules(x, "rank 0 100", -3);
    dueRules(x, "mark 9 0 1", -2);
    dueRules(x, "mark 0 x 1", -3);
    dueRules(x, "mark 0 0 0", -4);
    dueRules(x, "mark 0 0 10", -4);
    dueRules(x, "mark 0 0", -4);
    dueRules(x, "tunnel 9 1", -2);
    dueRules(x, "tunnel 0 0", -3);
    dueRules(x, "tunnel 0 6", -3);
    dueRules(x, "note 4 0", -2);
    dueRules(x, "note 0 x", -3);
    dueRules(x, "step 10 0 0", -2);
    dueRules(x, "step 0 4 0", -3);
    dueRules(x, "step 0 0 10", -4);
    dueRules(x, "class 10 0 0", -2);
    dueRules(x, "class 0 4 0", -3);
    dueRules(x, "class 0 0 9", -4);
    dueRules(x, "x y z", -1);
    dueRules(x, "", 0);
  }

  private static void rulesNotesAndMarks() {
    promise = "promise 3";
    PackLists x = new PackLists();
    String eight = "note 0 1 note 0 2 note 0 3 note 0 4 note 0 5 note 0 6 note 0 7 note 0 8 ";
    dueRules(x, eight + "note 1 1", 9);
    dueRules(x, eight + "note 0 9", -26);
    dueRules(x, eight + "note 0", -26);
    dueRules(x, eight + "note 0 x", -26);
    due("note(0, 7)", x.note(0, 7), 8);
    due("note(1, 0)", x.note(1, 0), 1);

    PackLists y = new PackLists();
    String six = "mark 2 1 1 mark 2 2 1 mark 2 3 1 mark 2 4 1 mark 2 5 1 mark 2 6 1 ";
    dueRules(y, six + "mark 2 1 9 mark 1 7 1", 8);
    dueRules(y, six + "mark 2 7 1", -27);
    dueRules(y, six + "mark 2 7", -27);
    dueRules(y, six + "mark 2", -27);
    dueRules(y, six + "mark 2 6 0", -28);
  }

  /** A new object for each text, as each takes most of an object's calls. */
  private static void rulesWhereAllAreFull() {
    promise = "promise 3";
    String notes = "";
    for (int i = 0; i < 32; i++) notes += "note " + i % 4 + " 0 ";
    String butOne = notes.substring(0, notes.length() - "note 3 0 ".length());
    dueRules(new PackLists(), notes, 32);
    dueRules(new PackLists(), notes + "note", -97);
    dueRules(new PackLists(), notes + "note 0 0", -97);
    dueRules(new PackLists(), notes + "note 4", -97);
    dueRules(new PackLists(), notes + "notes", -97);
    dueRules(new PackLists(), notes + "free 1 note 2", -99);
    dueRules(new PackLists(), notes + "free note", -98);
    dueRules(new PackLists(), butOne + "note", -95);
    dueRules(new PackLists(), butOne + "note 2", -95);
    dueRules(new PackLists(), butOne + "note 3", -96);
    dueRules(new PackLists(), butOne + "note 3 7", 32);

    PackLists again = new PackLists();
    dueRules(again, notes + "note", -97);
    due("note(0, 0) after a bad text", again.note(0, 0), NONE);
    dueRules(again, "note 0 5", 1);
    due("note(0, 0) of the next text", again.note(0, 0), 5);
  }

  private static void rulesReplaceRules() {
    promise = "promise 3";
    PackLists x = packed("points 0 7 free 3 mark 0 1 2 tunnel 0 4 note 0 5 rank 0 9 step 0 0 1", 0, 1000, 1, 1000, -1, 5);
    due("points()", x.points(), 7);
    dueRules(x, "points 0 8 free x", -5);
    due("points() after a bad text", x.points(), 7);
    due("exempt() after a bad text", x.exempt(), false);
    due("note(0, 0) after a bad text", x.note(0, 0), 5);
    due("name(0) after a bad text", x.name(0), 1);
    dueRules(x, "", 0);
    due("points() after an empty text", x.points(), 0);
    due("mark(0) after an empty text", x.mark(0), 0);
    due("tunnel() after an empty text", x.tunnel(), 0);
    due("note(0, 0) after an empty text", x.note(0, 0), NONE);
    due("name(0) after an empty text", x.name(0), 0);
    due("test(2, 0, 0) after an empty text", x.test(2, 0, 0), -100);
    dueRules(x, "points 0 5 points 0 6 free 5 free 9", 4);
    due("points() told again", x.points(), 6);
    due("exempt() told again", x.exempt(), true);
  }

  private static void bottle() {
    promise = "promise 4";
    PackLists x = new PackLists();
    due("bottle(-2, 1)", x.bottle(-2, 1), NONE);
    due("bottle(9, 1)", x.bottle(9, 1), NONE);
    due("bottle(0, 0)", x.bottle(0, 0), NONE);
    due("bottle(0, -1)", x.bottle(0, -1), NONE);
    due("bottle(0, 100001)", x.bottle(0, 100001), NONE);
    due("bottle(0, 2^32 + 1)", x.bottle(0, 4294967297L), NONE);
    due("bottle(0, 1)", x.bottle(0, 1), 0);
    due("bottle(8, 100000)", x.bottle(8, 100000), 1);
    due("bottle(NONE, 1)", x.bottle(NONE, 1), 2);
    for (int i = 3; i < 8; i++) due("bottle(1, 1)", x.bottle(1, 1), i);
    due("bottle(1, 1), the ninth", x.bottle(1, 1), NONE);
  }

  private static void box() {
    promise = "promise 5";
    PackLists x = new PackLists();
    due("box(-1, 1, 1)", x.box(-1, 1, 1), NONE);
    due("box(4, 1, 1)", x.box(4, 1, 1), NONE);
    due("box(0, -1, 1)", x.box(0, -1, 1), NONE);
    due("box(0, 1000001, 1)", x.box(0, 1000001, 1), NONE);
    due("box(0, 2^32, 1)", x.box(0, 4294967296L, 1), NONE);
    due("box(0, 1, -1)", x.box(0, 1, -1), NONE);
    due("box(0, 1, 9)", x.box(0, 1, 9), NONE);
    due("box(0, 0, 0)", x.box(0, 0, 0), 0);
    due("box(3, 1000000, 8)", x.box(3, 1000000, 8), 1);
    for (int i = 2; i < 5; i++) due("box(1, 1, 1)", x.box(1, 1, 1), i);
    due("box(1, 1, 1), the sixth", x.box(1, 1, 1), NONE);
  }

  private static void absorber() {
    promise = "promise 6";
    PackLists x = new PackLists();
    due("absorber(0, 0) of no box", x.absorber(0, 0), false);
    x.box(0, 100, 8);
    due("absorber(-1, 1)", x.absorber(-1, 1), false);
    due("absorber(1, 1)", x.absorber(1, 1), false);
    due("absorber(0, -1)", x.absorber(0, -1), false);
    due("absorber(0, 1000001)", x.absorber(0, 1000001), false);
    due("absorber(0, 2^32)", x.absorber(0, 4294967296L), false);
    x.bottle(0, 60);
    due("absorber(0, 40)", x.absorber(0, 40), true);
    due("pack with 40 grams", x.pack(PLENTY), 1);
    due("absorber(0, 41)", x.absorber(0, 41), true);
    due("pack with 41 grams", x.pack(PLENTY), NONE);
    due("absorber(0, 1000000)", x.absorber(0, 1000000), true);
    due("absorber(0, 0)", x.absorber(0, 0), true);
    due("pack without", x.pack(PLENTY), 1);
  }

  private static void packLimits() {
    promise = "promise 7";
    PackLists x = new PackLists();
    x.box(0, 0, 0);
    x.absorber(0, 1000);
    due("pack of nothing, by a box that holds nothing", x.pack(PLENTY), 0);
    x.bottle(0, 100);
    due("pack without room", x.pack(PLENTY), NONE);
    x.box(0, 99, 8);
    due("pack with a gram too few", x.pack(PLENTY), NONE);
    x.box(0, 100, 0);
    due("pack with a box for no bottle", x.pack(PLENTY), NONE);
    x.box(0, 100, 1);
    due("pack with just enough", x.pack(PLENTY), 1);
    due("boxOf(0)", x.boxOf(0), 3);
    x.bottle(0, 1);
    due("pack of one more", x.pack(PLENTY), 2);
    due("boxOf(0)", x.boxOf(0), 3);
    due("boxOf(1)", x.boxOf(1), 1);
  }

  private static void packBest() {
    promise = "promise 7";
    PackLists x = new PackLists();
    x.box(0, 10, 8);
    x.box(0, 10, 8);
    x.box(0, 30, 3);
    x.bottle(0, 10);
    x.bottle(0, 10);
    due("pack, the greater box for both", x.pack(PLENTY), 1);
    due("boxOf(0)", x.boxOf(0), 2);
    due("boxOf(1)", x.boxOf(1), 2);
    x.bottle(0, 10);
    x.bottle(0, 10);
    due("pack, one does not go in", x.pack(PLENTY), 2);
    due("boxOf(0)", x.boxOf(0), 0);
    due("boxOf(1)", x.boxOf(1), 2);
    due("boxOf(2)", x.boxOf(2), 2);
    due("boxOf(3)", x.boxOf(3), 2);

    PackLists y = new PackLists();
    for (int i = 0; i < 5; i++) y.box(0, 20, 2);
    for (int i = 0; i < 8; i++) y.bottle(i, 10);
    due("pack of eight by twos", y.pack(PLENTY), 4);
    for (int i = 0; i < 8; i++) due("boxOf(" + i + ")", y.boxOf(i), i / 2);

    PackLists all = new PackLists();
    for (int i = 0; i < 5; i++) all.box(0, 20, 1);
    for (int i = 0; i < 5; i++) all.bottle(0, 10);
    due("pack that needs all five boxes", all.pack(PLENTY), 5);
    for (int i = 0; i < 5; i++) due("boxOf(" + i + ")", all.boxOf(i), i);
    all.bottle(0, 10);
    due("pack that would need six", all.pack(PLENTY), NONE);
  }

  private static void packApart() {
    promise = "promise 7";
    PackLists x = new PackLists();
    dueRules(x, "apart 1 0 apart 2 2", 2);
    for (int i = 0; i < 3; i++) x.box(0, 1000, 8);
    x.bottle(0, 1);
    x.bottle(1, 1);
    x.bottle(2, 1);
    x.bottle(2, 1);
    x.bottle(0, 1);
    due("pack", x.pack(PLENTY), 2);
    int[] want = {0, 1, 0, 1, 0};
    for (int i = 0; i < 5; i++) due("boxOf(" + i + ")", x.boxOf(i), want[i]);
    x.bottle(2, 1);
    due("pack with a third of class 2", x.pack(PLENTY), 3);
    x.bottle(2, 1);
    due("pack with a fourth of class 2", x.pack(PLENTY), NONE);
    dueRules(x, "", 0);
    due("pack when none keep apart", x.pack(PLENTY), 1);

    for (int first = 0; first < 2; first++) {
      PackLists y = new PackLists();
      dueRules(y, "apart 4 6", 1);
      y.box(0, 1000, 8);
      y.box(0, 1000, 8);
      y.bottle(first == 0 ? 4 : 6, 1);
      y.bottle(first == 0 ? 6 : 4, 1);
      due("pack of two that keep apart, in either order", y.pack(PLENTY), 2);
    }
  }

  private static void packWays() {
    promise = "promise 7";
    PackLists x = new PackLists();
    due("pack(0) of nothing", x.pack(0), NONE);
    due("pack(-1) of nothing", x.pack(-1), NONE);
    due("pack(1) of nothing", x.pack(1), 0);
    x.bottle(0, 1);
    due("pack(1) without a box", x.pack(1), NONE);
    for (int i = 0; i < 5; i++) x.box(0, 1000000, 8);
    due("pack(4)", x.pack(4), NONE);
    due("pack(5)", x.pack(5), 1);
    due("pack(MIN)", x.pack(Long.MIN_VALUE), NONE);
    due("pack(MAX)", x.pack(Long.MAX_VALUE), 1);
    for (int i = 1; i < 8; i++) x.bottle(0, 1);
    due("pack(390624)", x.pack(390624), NONE);
    due("pack(390625)", x.pack(390625), 1);
    x.refuse(0, 1);
    due("pack(78124) of seven", x.pack(78124), NONE);
    due("pack(78125) of seven", x.pack(78125), 1);

    PackLists y = new PackLists();
    y.box(0, 10, 1);
    y.box(0, 10, 1);
    y.bottle(NONE, 1);
    due("pack(1) of an unknown one", y.pack(1), 0);
  }

  private static void packStays() {
    promise = "promises 7 to 17, what was found stays";
    PackLists x = packed("points 0 2", 0, 1500);
    x.bottle(0, 100000);
    x.absorber(0, 1000000);
    due("pack that finds none", x.pack(PLENTY), NONE);
    due("boxOf(0)", x.boxOf(0), 0);
    due("boxOf(1)", x.boxOf(1), NONE);
    due("points()", x.points(), 4);
    x.refuse(0, 1);
    due("boxOf(0) of a refused one", x.boxOf(0), 0);
    due("points() with a refused one", x.points(), 4);
    due("order(0) of a refused one", x.order(0), 0);
    x.refuse(1, 1);
    due("pack when all are refused", x.pack(PLENTY), 0);
    due("boxOf(0)", x.boxOf(0), NONE);
    due("points()", x.points(), 0);
  }

  private static void boxOf() {
    promise = "promise 8";
    PackLists x = packed("", 0, 5, -1, 5, 1, 5);
    due("boxOf(0)", x.boxOf(0), 0);
    due("boxOf(1) of an unknown one", x.boxOf(1), NONE);
    due("boxOf(2)", x.boxOf(2), 0);
    due("boxOf(3)", x.boxOf(3), NONE);
    due("boxOf(8)", x.boxOf(8), NONE);
    due("boxOf(-1)", x.boxOf(-1), NONE);
    due("boxOf(MAX)", x.boxOf(Integer.MAX_VALUE), NONE);
    due("boxOf(MIN)", x.boxOf(Integer.MIN_VALUE), NONE);
    x.bottle(0, 5);
    due("boxOf(3), told later", x.boxOf(3), NONE);
  }

  private static void again(PackLists x) {
    due("pack again", x.pack(PLENTY) != NONE, true);
    due("proved() when found", x.proved(), true);
  }

  private static void proved() {
    promise = "promise 9";
    PackLists x = packed("step 0 0 0 class 0 1 3", 0, 5, -1, 5);
    due("proved()", x.proved(), true);
    x.unit(256);
    x.bottle(9, 1);
    x.box(4, 1, 1);
    x.absorber(1, 1);
    x.refuse(0, 0);
    x.refuse(2, 1);
    x.test(0, 0, 0);
    x.test(1, 0, 2);
    x.test(1, 1, 0);
    x.pack(0);
    due("proved() after refused calls", x.proved(), true);
    x.unit(32);
    due("proved() after a byte", x.proved(), false);
    again(x);
    due("rules()", x.rules(), 0);
    due("proved() after rules()", x.proved(), false);
    dueRules(x, "step 0 0 0 class 0 1 3", 2);
    again(x);
    due("rules() of nothing", x.rules(), 0);
    due("proved() after rules() of nothing", x.proved(), false);
    dueRules(x, "step 0 0 0 class 0 1 3", 2);
    x.unit('x');
    again(x);
    due("bad rules()", x.rules(), -1);
    due("proved() after bad rules()", x.proved(), false);
    again(x);
    x.bottle(NONE, 1);
    due("proved() after a bottle", x.proved(), false);
    again(x);
    x.box(0, 1, 1);
    due("proved() after a box", x.proved(), false);
    again(x);
    x.absorber(0, 0);
    due("proved() after an absorber", x.proved(), false);
    due("pack(0)", x.pack(0), NONE);
    due("proved() after a pack that finds none", x.proved(), false);
    again(x);
    due("test(1, 0, 0)", x.test(1, 0, 0), 0);
    due("proved() after a test", x.proved(), false);
    again(x);
    due("refuse(2, 1)", x.refuse(2, 1), 1);
    due("proved() after a refusal", x.proved(), false);
    again(x);
    due("refuse(2, 1)", x.refuse(2, 1), NONE);
    due("proved() after a refused refusal", x.proved(), true);
  }

  private static void kept() {
    promise = "promise 10";
    PackLists x = packed("class 0 0 1", 0, 400, 0, 400, -1, 100);
    due("kept()", x.kept(), true);
    x.absorber(0, 999200);
    due("kept() with just enough", x.kept(), true);
    x.absorber(0, 999201);
    due("kept() with a gram too few", x.kept(), false);
    x.absorber(0, 0);
    due("kept() when it is taken back", x.kept(), true);
    dueRules(x, "apart 0 0 class 0 0 1", 2);
    due("kept() when they keep apart", x.kept(), false);
    dueRules(x, "apart 0 1 class 0 0 1", 2);
    due("kept() when others keep apart", x.kept(), true);
    x.bottle(NONE, 5);
    due("kept() with one more unknown one", x.kept(), true);
    x.box(0, 5, 5);
    due("kept() with one more box", x.kept(), true);
    due("test(2, 0, 0)", x.test(2, 0, 0), -2);
    due("kept() when one has become known", x.kept(), false);
    due("refuse(2, 1)", x.refuse(2, 1), 1);
    due("kept() when that one is refused", x.kept(), true);
    due("pack(0)", x.pack(0), NONE);
    due("kept() after a pack that finds none", x.kept(), true);
    x.bottle(8, 1);
    due("kept() with one more known one", x.kept(), false);
    x.refuse(4, 1);
    due("kept() when it is refused", x.kept(), true);
    x.refuse(1, 1);
    due("kept() when one that was packed is refused", x.kept(), false);
    due("pack", x.pack(PLENTY), 1);
    due("kept() when packed anew", x.kept(), true);

    PackLists none = new PackLists();
    due("pack(0)", none.pack(0), NONE);
    due("kept() when none was found", none.kept(), false);
    due("pack(1)", none.pack(1), 0);
    due("kept() of nothing", none.kept(), true);
  }

  private static void points() {
    promise = "promise 11";
    due("points() of 1 gram", packed("points 0 7", 0, 1).points(), 7);
    due("points() of 1000 grams", packed("points 0 7", 0, 1000).points(), 7);
    due("points() of 1001 grams", packed("points 0 7", 0, 1001).points(), 14);
    due("points() of a class together", packed("points 0 7", 0, 500, 0, 500).points(), 7);
    due("points() of two classes", packed("points 0 7 points 1 100", 0, 500, 1, 1500).points(), 207);
    due("points() without", packed("points 1 7", 0, 500).points(), 0);
    due("points() of an unknown one", packed("points 0 7", -1, 500).points(), 0);
    due("points() of much", packed("points 8 1000", 8, 100000, 8, 100000, 8, 100000).points(), 300000);
    PackLists x = packed("points 0 7", 0, 1500);
    dueRules(x, "points 0 8", 1);
    due("points() by the rules now", x.points(), 16);
  }

  private static void exempt() {
    promise = "promise 12";
    due("exempt() of nothing", packed("").exempt(), true);
    due("exempt() of no points", packed("", 0, 5).exempt(), true);
    due("exempt() at the limit", packed("points 0 7 free 14", 0, 1001).exempt(), true);
    due("exempt() above it", packed("points 0 7 free 13", 0, 1001).exempt(), false);
    PackLists x = packed("points 0 7", 0, 1);
    due("exempt() when nothing is free", x.exempt(), false);
    dueRules(x, "points 0 7 free 7", 2);
    due("exempt() by the rules now", x.exempt(), true);
  }

  private static void nameAndOrder() {
    promise = "promises 13 and 14";
    PackLists x = packed("rank 3 5 rank 1 5 rank 0 99", 3, 1, 0, 1, 1, 1, 7, 1, -1, 1, 3, 1, 1, 1, 7, 1);
    int[] names = {7, 1, 3, 0};
    int[] bottles = {3, 7, 2, 6, 0, 5, 1};
    for (int k = 0; k < names.length; k++) due("name(" + k + ")", x.name(k), names[k]);
    for (int k = 0; k < bottles.length; k++) due("order(" + k + ")", x.order(k), bottles[k]);
    due("name(4)", x.name(4), NONE);
    due("name(-1)", x.name(-1), NONE);
    due("name(9)", x.name(9), NONE);
    due("name(MAX)", x.name(Integer.MAX_VALUE), NONE);
    due("order(7)", x.order(7), NONE);
    due("order(-1)", x.order(-1), NONE);
    due("order(MIN)", x.order(Integer.MIN_VALUE), NONE);
    dueRules(x, "", 0);
    int[] plain = {0, 1, 3, 7};
    for (int k = 0; k < plain.length; k++) due("name(" + k + ") by the rules now", x.name(k), plain[k]);
    due("order(0) by the rules now", x.order(0), 1);
    dueRules(x, "rank 1 0", 1);
    due("name(1), a rank 0 that is told", x.name(1), 1);
    due("name(2), a rank 0 that is not told", x.name(2), 3);
  }

  private static void paper() {
    promise = "promise 15";
    PackLists x = packed("points 2 10 rank 0 1", 0, 5, 2, 1000, 2, 1);
    duePaper(x, "2 1001 20\n0 5 0\n");
    dueRules(x, "points 0 999", 1);
    duePaper(x, "0 5 999\n2 1001 0\n");
    duePaper(packed(""), "");
    PackLists much = packed("points 8 1000", 8, 100000, 8, 100000, 8, 100000, 8, 100000, 8, 100000, 8, 100000, 8, 100000, 8, 100000);
    duePaper(much, "8 800000 800000\n");
    PackLists wide = packed("points 0 1000 points 8 1000", 0, 100000, 1, 100000, 2, 100000, 3, 100000, 4, 100000, 5, 100000, 6, 100000, 8, 100000);
    duePaper(wide, "0 100000 100000\n1 100000 0\n2 100000 0\n3 100000 0\n4 100000 0\n5 100000 0\n6 100000 0\n8 100000 100000\n");
  }

  private static void mark() {
    promise = "promise 16";
    PackLists x = packed("mark 0 100 3 mark 0 50 4 mark 1 0 5 mark 2 0 6 mark 3 11 7", 0, 100, 1, 1, 3, 5, 3, 5);
    due("mark(0), the last one told", x.mark(0), 4);
    due("mark(1) from 0 grams on", x.mark(1), 5);
    due("mark(2), none in the load", x.mark(2), 0);
    due("mark(3), not reached", x.mark(3), 0);
    due("mark(8)", x.mark(8), 0);
    due("mark(-1)", x.mark(-1), NONE);
    due("mark(9)", x.mark(9), NONE);
    due("mark(MAX)", x.mark(Integer.MAX_VALUE), NONE);
    dueRules(x, "mark 3 10 7 mark 0 99 1 mark 0 101 2", 3);
    due("mark(3) of two together", x.mark(3), 7);
    due("mark(0), the last one that is reached", x.mark(0), 1);
    dueRules(x, "mark 0 50 1 mark 0 100 2 mark 0 50 9", 3);
    due("mark(0), told again in its old place", x.mark(0), 2);
    dueRules(x, "mark 0 50 1 mark 0 101 2 mark 0 50 9", 3);
    due("mark(0), told again with another size", x.mark(0), 9);
  }

  private static void tunnel() {
    promise = "promise 17";
    PackLists x = packed("tunnel 0 2 tunnel 1 5 tunnel 2 3 points 0 1", 0, 1, 2, 1);
    due("tunnel()", x.tunnel(), 3);
    dueRules(x, "tunnel 0 2 tunnel 2 3 points 0 1 free 1", 4);
    due("tunnel() of an exempt one", x.tunnel(), 0);
    dueRules(x, "tunnel 1 2 points 0 1", 2);
    due("tunnel() without a code", x.tunnel(), 0);
    dueRules(x, "tunnel 0 4 tunnel 0 1 points 0 1", 3);
    due("tunnel() told again", x.tunnel(), 1);
  }

  private static void note() {
    promise = "promise 18";
    PackLists x = new PackLists();
    dueRules(x, "note 0 7 note 3 0 note 0 7 note 0 999999", 4);
    due("note(0, 0)", x.note(0, 0), 7);
    due("note(0, 1)", x.note(0, 1), 7);
    due("note(0, 2)", x.note(0, 2), 999999);
    due("note(0, 3)", x.note(0, 3), NONE);
    due("note(0, -1)", x.note(0, -1), NONE);
    due("note(3, 0)", x.note(3, 0), 0);
    due("note(1, 0)", x.note(1, 0), NONE);
    due("note(4, 0)", x.note(4, 0), NONE);
    due("note(-1, 0)", x.note(-1, 0), NONE);
    due("note(MIN, MAX)", x.note(Integer.MIN_VALUE, Integer.MAX_VALUE), NONE);
    dueRules(x, "note 0 1", 1);
    due("note(0, 0) by the rules now", x.note(0, 0), 1);
    due("note(0, 1) by the rules now", x.note(0, 1), NONE);
  }

  private static void refuse() {
    promise = "promises 19 and 20";
    PackLists x = new PackLists();
    for (int i = 0; i < 8; i++) x.bottle(i % 2 == 0 ? 0 : NONE, 1);
    due("refuse(5, 0)", x.refuse(5, 0), NONE);
    due("refuse(5, 10)", x.refuse(5, 10), NONE);
    due("refuse(8, 1)", x.refuse(8, 1), NONE);
    due("refuse(-1, 1)", x.refuse(-1, 1), NONE);
    due("refused(0)", x.refused(0), NONE);
    due("refuse(5, 9)", x.refuse(5, 9), 1);
    due("refuse(5, 9) again", x.refuse(5, 9), NONE);
    due("refuse(5, 1) again", x.refuse(5, 1), NONE);
    due("refuse(0, 1)", x.refuse(0, 1), 2);
    due("refused(0)", x.refused(0), 59);
    due("refused(1)", x.refused(1), 1);
    due("refused(2)", x.refused(2), NONE);
    due("refused(-1)", x.refused(-1), NONE);
    due("refused(MAX)", x.refused(Integer.MAX_VALUE), NONE);
    int[] rest = {7, 6, 4, 3, 2, 1};
    for (int i = 0; i < rest.length; i++) due("refuse", x.refuse(rest[i], 3), 3 + i);
    due("refused(7)", x.refused(7), 13);
    due("refused(8)", x.refused(8), NONE);
    due("pack of nothing", x.pack(1), 0);
  }

  private static void test() {
    promise = "promise 21";
    PackLists x = new PackLists();
    dueRules(x, "step 0 0 9 step 9 3 4 class 4 1 8 step 0 1 0 class 0 2 0 class 0 3 5 step 0 3 2 step 2 0 7 class 2 0 1", 9);
    x.bottle(NONE, 10);
    x.bottle(3, 10);
    x.bottle(NONE, 10);
    x.bottle(NONE, 10);
    due("test(-1, 0, 0)", x.test(-1, 0, 0), -100);
    due("test(4, 0, 0)", x.test(4, 0, 0), -100);
    due("test(1, 0, 0) of a known one", x.test(1, 0, 0), -100);
    due("test(0, 1, 0) at another step", x.test(0, 1, 0), -100);
    due("test(0, -1, 0)", x.test(0, -1, 0), -100);
    due("test(0, 10, 0)", x.test(0, 10, 0), -100);
    due("test(0, 0, -1)", x.test(0, 0, -1), -100);
    due("test(0, 0, 4)", x.test(0, 0, 4), -100);
    due("test(0, 0, 1) to where it is", x.test(0, 0, 1), 0);
    due("test(0, 0, 0)", x.test(0, 0, 0), 9);
    due("test(0, 0, 0) again", x.test(0, 0, 0), -100);
    due("test(0, 9, 0), nothing told", x.test(0, 9, 0), -100);
    due("test(0, 9, 3)", x.test(0, 9, 3), 4);
    due("test(0, 4, 1)", x.test(0, 4, 1), -9);
    due("test(0, 4, 1) when known", x.test(0, 4, 1), -100);
    due("test(2, 0, 2)", x.test(2, 0, 2), -1);
    x.box(0, 1000, 8);
    due("pack", x.pack(PLENTY), 1);
    due("name(0)", x.name(0), 0);
    due("name(2)", x.name(2), 8);
    due("order(2)", x.order(2), 0);
    x.refuse(3, 1);
    due("test(3, 0, 3) of a refused one, step told last", x.test(3, 0, 3), 2);
    due("test(3, 2, 0), class told last", x.test(3, 2, 0), -2);
  }
}
