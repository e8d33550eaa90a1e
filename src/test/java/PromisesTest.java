/** Each promise by its number: ordinary inputs, the edges that the document names, wrong inputs. */
public final class PromisesTest {
  private static final int BAD = -1, STATE = -2, FULL = -3, NONE = -4;
  private static final int MIN = Integer.MIN_VALUE, MAX = Integer.MAX_VALUE;
  private static int wrong = 0;
  private static int asked = 0;

  /** Two houses (0 low and leaking, 1 high and tight), five things; the tide of run 1 of the shared tests. */
  private static final String COAST = "house 2 12 1;house 5 6 0;plain 0 3 4;piano 0 5 9;father 1 4 2;"
      + "self 1 9 1;plain 1 2 9;wind 6;rise 0 7;rise 2 8;rise 5 0;";

  private static void due(int promise, String call, long got, long want) {
    asked++;
    if (got != want) {
      wrong++;
      System.out.println("promise " + promise + ": " + call + " answered " + got + ", due is " + want);
    }
  }

  private static void feedAll(ArkTerrace x, String text) {
    for (int k = 0; k < text.length(); k++) x.feed(text.charAt(k));
  }

  private static ArkTerrace told(String text) {
    ArkTerrace x = new ArkTerrace();
    feedAll(x, text);
    int lines = x.text();
    if (lines < 0) due(4, "text() of " + text, lines, 0);
    return x;
  }

  private static void faulty(String text, int place, int fault) {
    ArkTerrace x = told("house 3 4 1;");
    feedAll(x, text);
    due(4, "text() of '" + text + "'", x.text(), -10 - place);
    due(5, "fault() of '" + text + "'", x.fault(), fault);
    due(4, "houses that stay", x.rule(0), 1);
    due(4, "the tape behind a fault", x.count(2), 0);
  }

  private static void taken(String text, int lines) {
    ArkTerrace x = told("house 3 4 1;");
    feedAll(x, text);
    due(4, "text() of '" + text + "'", x.text(), lines);
    due(5, "fault() of '" + text + "'", x.fault(), 0);
    due(4, "the tape behind a text", x.count(2), 0);
  }

  private static void aNewObject() {
    ArkTerrace x = new ArkTerrace();
    for (int what = 0; what < 9; what++) due(1, "rule(" + what + ")", x.rule(what), what == 5 ? 4 : 0);
    for (int d = 0; d < 7; d++) due(1, "rise(" + d + ")", x.rise(d), 4);
    for (int k = 0; k < 4; k++) due(1, "lay(" + k + ", 0, 0)", x.lay(k, 0, 0), -11);
    due(1, "house(0, 0)", x.house(0, 0), BAD);
    due(1, "thing(0, 0)", x.thing(0, 0), BAD);
    due(1, "fault()", x.fault(), 0);
    due(1, "torn()", x.torn(), 0);
    due(1, "back(0)", x.back(0), STATE);
    due(1, "count(0)", x.count(0), 0);
    due(1, "count(1)", x.count(1), 0);
    due(1, "count(2)", x.count(2), 0);
    due(1, "count(3)", x.count(3), NONE);
  }

  private static void feedAndEnd() {
    ArkTerrace x = new ArkTerrace();
    due(2, "feed(-1)", x.feed(-1), BAD);
    due(2, "feed(128)", x.feed(128), BAD);
    due(2, "feed(0)", x.feed(0), 1);
    due(2, "feed(127)", x.feed(127), 2);
    due(3, "end(3)", x.end(3), BAD);
    due(3, "end(-1)", x.end(-1), BAD);
    due(3, "end(2)", x.end(2), 2);
    due(3, "end(0)", x.end(0), 2);
    due(3, "end(0)", x.end(0), 0);
    due(3, "end(1)", x.end(1), BAD);
    for (int k = 1; k <= 160; k++) due(2, "feed(32) " + k, x.feed(' '), k);
    due(2, "feed(32) 161", x.feed(' '), FULL);
    due(2, "feed(128) when full", x.feed(128), BAD);
    due(2, "bytes", x.count(2), 160);
    due(3, "end(159)", x.end(159), 160);
    due(2, "feed(32) again", x.feed(' '), 160);
    due(4, "text() of blanks", x.text(), 0);
    feedAll(x, "house 1 2 3;x");
    due(3, "end(12)", x.end(12), 13);
    due(4, "text() of what was kept", x.text(), 1);
    feedAll(x, "windx");
    x.end(4);
    due(4, "text() of a name that was cut", x.text(), -14);
    feedAll(x, "wind 12");
    x.end(6);
    due(4, "text() of a number that was cut", x.text(), -16);
    due(5, "fault()", x.fault(), 2);
  }

  private static void texts() {
    taken("", 0);
    taken("   ", 0);
    taken("house 20 40 3;", 1);
    taken("house0 0 0;", 1);
    taken("  house  00 07  3  ;  wind 8;", 2);
    taken("house 1 1 1;plain 0 1 0;piano 0 9 9;father 0 1 1;self 0 1 1;rise 0 0;rise 6 8;wind 0;level 20;", 9);
    taken("plain 0 1 1;house 1 1 1;", 2);
    taken("plain 3 1 1;house 1 1 1;house 1 1 1;house 1 1 1;house 1 1 1;", 5);
    faulty("cat 1;", 0, 2);
    faulty("houses 1 1 1;", 0, 2);
    faulty("hous 1 1 1;", 0, 2);
    faulty("xind 1;", 0, 2);
    faulty("winx 1;", 0, 2);
    faulty("house 1 1 1;;", 12, 2);
    faulty("house 1 1 1;7", 12, 2);
    faulty("house 1 1 1 1;", 12, 2);
    faulty("house 1 1;", 9, 2);
    faulty("house wind 1;", 6, 2);
    faulty("wind 1 wind 1;", 7, 2);
    faulty("house 1 1 1  ", 13, 2);
    faulty("house", 5, 2);
    faulty("rise 0 ", 7, 2);
    faulty("House 1 1 1;", 0, 1);
    faulty("house 1 1 1,", 11, 1);
    faulty("house 1 1 1;\t", 12, 1);
    faulty("house 100 1 1;", 6, 1);
    faulty("house 1 1 1; 001", 13, 1);
    faulty("wind 1;wind 111;", 7, 4);
    faulty("cat %", 0, 2);
    faulty("house 1 41 %", 8, 3);
    faulty("house 21 1 1;", 6, 3);
    faulty("house 1 41 1;", 8, 3);
    faulty("house 1 1 4;", 10, 3);
    faulty("self 4 1 1;", 5, 3);
    faulty("self 0 0 1;", 7, 3);
    faulty("self 0 10 1;", 7, 3);
    faulty("self 0 1 10;", 9, 3);
    faulty("rise 7 1;", 5, 3);
    faulty("rise 1 9;", 7, 3);
    faulty("wind 9;", 5, 3);
    faulty("level 21;", 6, 3);
    faulty("wind 1;level 1;wind 1;", 15, 4);
    faulty("level 1;level 99;", 8, 4);
    faulty("rise 3 1;rise 2 1;rise 3 99;", 23, 4);
    faulty("rise 3 1;rise 3 %", 14, 4);
    faulty("house 1 1 1;house 1 1 1;house 1 1 1;house 1 1 1; house %", 49, 5);
    String thing = "plain 0 1 1;";
    String eight = thing + thing + thing + thing + thing + thing + thing + thing;
    faulty(eight + "self 9", 96, 5);
    taken(eight + "house 1 1 1;", 9);
    faulty(thing, 12, 6);
    faulty("house 1 1 1;plain 1 1 1; ", 25, 6);
    faulty("plain 0 1 1;wind 9;", 17, 3);
    StringBuilder full = new StringBuilder("plain 0 1 1;");
    while (full.length() < 160) full.append(' ');
    faulty(full.toString(), 160, 6);
  }

  private static void aTextTellsAll() {
    ArkTerrace x = told(COAST + "level 1;");
    x.keep(0);
    x.see(1, 1);
    x.sheet(0, 0, 5);
    x.stow(0);
    x.days(3);
    x.read(1, 0, 0, 1);
    feedAll(x, "house 1 1 9;");
    due(4, "text() with a fault", x.text(), -20);
    due(5, "fault()", x.fault(), 3);
    due(4, "day stays", x.rule(2), 3);
    due(4, "seen stays", x.count(0), 1);
    due(4, "images stay", x.count(1), 1);
    feedAll(x, "level 9;house 1 2 3;");
    due(4, "text()", x.text(), 2);
    due(5, "fault()", x.fault(), 0);
    int[] due = {1, 0, 0, 9, 0, 4, 0, 0, 0};
    for (int what = 0; what < 9; what++) due(4, "rule(" + what + ")", x.rule(what), due[what]);
    for (int d = 0; d < 7; d++) due(4, "rise(" + d + ")", x.rise(d), 4);
    due(4, "seen is gone", x.count(0), 0);
    due(4, "images are gone", x.count(1), 0);
    due(4, "back(0)", x.back(0), STATE);
    due(4, "sheets stay", x.count(3), 5);
    due(42, "torn() stays", x.torn(), 1);
  }

  private static void oneTextBehindAnother() {
    ArkTerrace x = told("house 1 9 0;house 2 8 0;house 3 7 0;plain 0 1 9;plain 1 1 8;plain 2 1 7;level 9;wind 7;rise 0 8;");
    x.stow(0);
    x.days(1);
    feedAll(x, "house 9 4 0;plain 0 1 5;wind 5;rise 0 6;");
    due(4, "text()", x.text(), 4);
    due(4, "level", x.rule(3), 0);
    due(4, "wind", x.rule(5), 5);
    due(4, "rise(0)", x.rise(0), 6);
    due(7, "house(0, 5)", x.house(0, 5), 1);
    due(7, "house(1, 0)", x.house(1, 0), BAD);
    due(8, "thing(1, 0)", x.thing(1, 0), BAD);
    due(43, "count(4)", x.count(4), 4);
    due(43, "count(5)", x.count(5), 5);
    due(21, "pack(0, 0)", x.pack(0, 0), 1);
    feedAll(x, "level 3;house 9 4 0;");
    due(4, "text()", x.text(), 2);
    due(4, "level", x.rule(3), 3);
    feedAll(x, "level 2;");
    due(4, "text()", x.text(), 1);
    due(4, "level", x.rule(3), 2);
    due(4, "houses", x.rule(0), 0);
  }

  private static void whatThereIs() {
    ArkTerrace x = told(COAST);
    int[] rule = {2, 5, 0, 0, 0, 6, 0, 0, 0};
    for (int what = 0; what < 9; what++) due(6, "rule(" + what + ")", x.rule(what), rule[what]);
    due(6, "rule(-1)", x.rule(-1), BAD);
    due(6, "rule(9)", x.rule(9), BAD);
    int[][] house = {{2, 12, 1, 50, 0, 3}, {5, 6, 0, 50, 0, 28}};
    for (int h = 0; h < 2; h++)
      for (int what = 0; what < 6; what++)
        due(7, "house(" + h + ", " + what + ")", x.house(h, what), house[h][what]);
    due(7, "house(2, 0)", x.house(2, 0), BAD);
    due(7, "house(-1, 0)", x.house(-1, 0), BAD);
    due(7, "house(0, 6)", x.house(0, 6), BAD);
    due(7, "house(0, -1)", x.house(0, -1), BAD);
    int[][] thing = {{0, 0, 3, 4, 0, 3, 4}, {1, 0, 5, 9, 0, 10, 9}, {2, 1, 4, 2, 0, 2, 6}, {3, 1, 9, 1, 0, 6, 4},
        {0, 1, 2, 9, 0, 2, 9}};
    for (int i = 0; i < 5; i++)
      for (int what = 0; what < 7; what++)
        due(8, "thing(" + i + ", " + what + ")", x.thing(i, what), thing[i][what]);
    due(8, "thing(5, 0)", x.thing(5, 0), BAD);
    due(8, "thing(-1, 0)", x.thing(-1, 0), BAD);
    due(8, "thing(0, 7)", x.thing(0, 7), BAD);
    due(8, "thing(0, -1)", x.thing(0, -1), BAD);
    int[] rise = {7, 4, 8, 4, 4, 0, 4};
    for (int d = 0; d < 7; d++) due(9, "rise(" + d + ")", x.rise(d), rise[d]);
    due(9, "rise(7)", x.rise(7), BAD);
    due(9, "rise(-1)", x.rise(-1), BAD);
    x.stow(2);
    x.stow(4);
    due(6, "rule(7)", x.rule(7), 20);
    due(7, "house(1, 4)", x.house(1, 4), 4);
    due(8, "thing(2, 4)", x.thing(2, 4), 1);
    x.days(3);
    due(6, "rule(2)", x.rule(2), 3);
    due(6, "rule(3)", x.rule(3), 7);
    due(6, "rule(4)", x.rule(4), 17);
    due(6, "rule(6)", x.rule(6), 3);
    due(6, "rule(8)", x.rule(8), 11);
    due(7, "house(0, 5) with lost ones", x.house(0, 5), 3);
    due(8, "thing(3, 4)", x.thing(3, 4), 2);
    due(8, "thing(3, 6) of a lost one", x.thing(3, 6), 4);
  }

  private static void fillsAndCosts() {
    ArkTerrace x = told("house 1 1 1;self 0 1 0;");
    int[][] fill = {{1, 4, 9}, {2, 8, 18}, {1, 2, 5}, {2, 3, 6}};
    int[][] cost = {{0, 4, 9}, {0, 4, 9}, {0, 12, 27}, {1, 13, 28}};
    int[] size = {1, 4, 9};
    int[] worth = {0, 4, 9};
    for (int kind = 0; kind < 4; kind++) {
      for (int k = 0; k < 3; k++) {
        x.alter(0, 0, kind);
        x.alter(0, 1, size[k]);
        x.alter(0, 2, worth[k]);
        due(8, "what kind " + kind + " of size " + size[k] + " fills", x.thing(0, 5), fill[kind][k]);
        due(8, "what kind " + kind + " of worth " + worth[k] + " costs", x.thing(0, 6), cost[kind][k]);
      }
    }
  }

  private static void whatIsChanged() {
    ArkTerrace x = told(COAST);
    int[] most = {20, 40, 3, 99};
    int[] was = {5, 6, 0, 50};
    for (int what = 0; what < 4; what++) {
      due(10, "build(1, " + what + ", 0)", x.build(1, what, 0), was[what]);
      due(10, "build(1, " + what + ", most)", x.build(1, what, most[what]), 0);
      due(10, "build(1, " + what + ", most + 1)", x.build(1, what, most[what] + 1), BAD);
      due(10, "build(1, " + what + ", -1)", x.build(1, what, -1), BAD);
      due(10, "house(1, " + what + ")", x.house(1, what), most[what]);
      due(10, "house(0, " + what + ") as it was", x.house(0, what), new int[] {2, 12, 1, 50}[what]);
    }
    due(10, "build(1, 4, 0)", x.build(1, 4, 0), BAD);
    due(10, "build(1, -1, 0)", x.build(1, -1, 0), BAD);
    due(10, "build(2, 0, 0)", x.build(2, 0, 0), BAD);
    due(10, "build(-1, 0, 0)", x.build(-1, 0, 0), BAD);
    int[] least = {0, 1, 0};
    most = new int[] {3, 9, 9};
    was = new int[] {2, 4, 2};
    for (int what = 0; what < 3; what++) {
      due(11, "alter(2, " + what + ", least)", x.alter(2, what, least[what]), was[what]);
      due(11, "alter(2, " + what + ", most)", x.alter(2, what, most[what]), least[what]);
      due(11, "alter(2, " + what + ", most + 1)", x.alter(2, what, most[what] + 1), BAD);
      due(11, "alter(2, " + what + ", least - 1)", x.alter(2, what, least[what] - 1), BAD);
      due(11, "thing(2, ..)", x.thing(2, what == 0 ? 0 : what + 1), most[what]);
    }
    due(11, "alter(2, 3, 1)", x.alter(2, 3, 1), BAD);
    due(11, "alter(2, -1, 1)", x.alter(2, -1, 1), BAD);
    due(11, "alter(5, 0, 1)", x.alter(5, 0, 1), BAD);
    due(11, "alter(-1, 0, 1)", x.alter(-1, 0, 1), BAD);
    due(12, "tide(0, 0)", x.tide(0, 0), 7);
    due(12, "tide(6, 8)", x.tide(6, 8), 4);
    due(12, "rise(6)", x.rise(6), 8);
    due(12, "rise(0)", x.rise(0), 0);
    due(12, "tide(0, 9)", x.tide(0, 9), BAD);
    due(12, "tide(0, -1)", x.tide(0, -1), BAD);
    due(12, "tide(7, 1)", x.tide(7, 1), BAD);
    due(12, "tide(-1, 1)", x.tide(-1, 1), BAD);
    due(13, "blow(0)", x.blow(0), 6);
    due(13, "blow(8)", x.blow(8), 0);
    due(13, "blow(9)", x.blow(9), BAD);
    due(13, "blow(-1)", x.blow(-1), BAD);
    due(13, "rule(5)", x.rule(5), 8);
  }

  private static void stowAndFetch() {
    ArkTerrace x = told("house 2 10 0;house 20 0 0;plain 0 4 1;plain 0 6 2;plain 0 1 3;plain 1 1 1;rise 0 8;rise 1 8;");
    due(14, "stow(-1)", x.stow(-1), BAD);
    due(14, "stow(4)", x.stow(4), BAD);
    due(14, "stow(0)", x.stow(0), 6);
    due(14, "stow(0) again", x.stow(0), STATE);
    due(14, "stow(1)", x.stow(1), 0);
    due(14, "stow(2)", x.stow(2), FULL);
    due(14, "stow(3)", x.stow(3), FULL);
    due(14, "rule(7)", x.rule(7), 3);
    due(10, "build(0, 1, 3) with more in it", x.build(0, 1, 3), 10);
    due(7, "house(0, 4)", x.house(0, 4), 10);
    due(15, "fetch(1)", x.fetch(1), 0);
    due(15, "fetch(1) again", x.fetch(1), STATE);
    due(15, "fetch(4)", x.fetch(4), BAD);
    due(15, "fetch(-1)", x.fetch(-1), BAD);
    due(15, "fetch(0)", x.fetch(0), 3);
    due(15, "rule(7)", x.rule(7), 0);
    x.build(0, 1, 10);
    x.stow(0);
    due(16, "days(1)", x.days(1), 5);
    due(15, "fetch(0) afloat", x.fetch(0), STATE);
    due(14, "stow(0) afloat", x.stow(0), STATE);
    due(14, "stow(1) lost", x.stow(1), STATE);
    due(15, "fetch(1) lost", x.fetch(1), STATE);
    due(14, "stow(3) still full", x.stow(3), FULL);
    x.tide(1, 0);
    due(16, "days(1)", x.days(1), 0);
    due(6, "rule(6)", x.rule(6), 0);
    due(15, "fetch(0) aground", x.fetch(0), 10);
    due(14, "stow(1) lost, aground", x.stow(1), STATE);
  }

  private static void aDay() {
    ArkTerrace x = told("house 0 9 2;house 4 5 0;plain 0 2 1;plain 0 3 2;plain 0 1 4;plain 1 1 8;rise 0 8;rise 1 5;rise 2 0;wind 1;");
    x.stow(0);
    x.stow(1);
    x.stow(2);
    due(16, "day 1: 4 is above 0, is not above 4", x.days(1), 0);
    due(16, "level", x.rule(3), 4);
    due(16, "afloat", x.rule(6), 1);
    due(16, "it leaks on the first day", x.house(0, 1), 7);
    due(16, "the wind takes it", x.house(0, 3), 47);
    due(16, "the other stays", x.house(1, 3), 50);
    due(16, "day 2: the last is lost, what is out is lost", x.days(1), 12);
    due(16, "lost", x.rule(8), 12);
    due(16, "room", x.house(0, 1), 5);
    due(16, "day 3: one is aground, one leaks on", x.days(1), 2);
    due(16, "level", x.rule(3), 1);
    due(16, "afloat", x.rule(6), 1);
    due(16, "room", x.house(0, 1), 3);
    due(16, "place", x.house(0, 3), 41);
    due(16, "in", x.rule(7), 1);
    due(16, "sorrow", x.rule(4), 14);
    due(16, "day", x.rule(2), 3);
    x.tide(3, 0);
    due(16, "day 4: level is 0 at least", x.days(1), 0);
    due(16, "level", x.rule(3), 0);
    due(16, "afloat", x.rule(6), 0);
    due(16, "aground it does not leak", x.house(0, 1), 3);
  }

  private static void dayBounds() {
    ArkTerrace x = told("house 0 1 3;wind 8;level 18;");
    for (int d = 0; d < 7; d++) x.tide(d, 8);
    due(16, "days(30)", x.days(30), 0);
    due(16, "level is 20 at most", x.rule(3), 20);
    due(16, "place is 99 at most", x.house(0, 3), 99);
    due(16, "room is 0 at least", x.house(0, 1), 0);
    x.blow(0);
    x.days(30);
    due(16, "place is 0 at least", x.house(0, 3), 0);
    due(16, "days(-1)", x.days(-1), BAD);
    due(16, "days(31)", x.days(31), BAD);
    for (int k = 0; k < 31; k++) due(16, "days(30)", x.days(30), 0);
    due(16, "day", x.rule(2), 990);
    due(16, "days(10)", x.days(10), FULL);
    due(16, "days(31) when full", x.days(31), BAD);
    due(16, "days(9)", x.days(9), 0);
    due(16, "days(0)", x.days(0), 0);
    due(16, "days(1)", x.days(1), FULL);
    due(16, "day", x.rule(2), 999);
    due(17, "runs(60, 3) from day 999", x.runs(60, 3), 20);
  }

  private static void theWeekGoesRound() {
    ArkTerrace x = told("rise 0 5;rise 6 6;");
    int[] level = {1, 1, 1, 1, 1, 1, 3, 4, 4};
    for (int n = 0; n < 9; n++) {
      x.days(1);
      due(16, "level behind day " + (n + 1), x.rule(3), level[n]);
    }
  }

  private static void byDays() {
    ArkTerrace x = told(COAST);
    x.stow(0);
    x.stow(2);
    x.stow(4);
    int[] n = {0, 1, 3, 8, 20, 60};
    int[][] runs = {{0, 0, 0, 0}, {9, 2, 1, 3}, {13, 10, 3, 7}, {13, 10, 3, 7}, {17, 11, 3, 13}, {17, 11, 3, 20}};
    for (int k = 0; k < n.length; k++)
      for (int what = 0; what < 4; what++)
        due(17, "runs(" + n[k] + ", " + what + ")", x.runs(n[k], what), runs[k][what]);
    due(17, "runs(61, 0)", x.runs(61, 0), BAD);
    due(17, "runs(-1, 0)", x.runs(-1, 0), BAD);
    due(17, "runs(0, 4)", x.runs(0, 4), BAD);
    due(17, "runs(0, -1)", x.runs(0, -1), BAD);
    due(18, "ahead(0, 0, 0)", x.ahead(0, 0, 0), 50);
    due(18, "ahead(0, 3, 0)", x.ahead(0, 3, 0), 56);
    due(18, "ahead(0, 8, 1)", x.ahead(0, 8, 1), 4);
    due(18, "ahead(1, 3, 0)", x.ahead(1, 3, 0), 52);
    due(18, "ahead(1, 60, 0)", x.ahead(1, 60, 0), 99);
    due(18, "ahead(1, 60, 1)", x.ahead(1, 60, 1), 6);
    due(18, "ahead(2, 0, 0)", x.ahead(2, 0, 0), BAD);
    due(18, "ahead(-1, 0, 0)", x.ahead(-1, 0, 0), BAD);
    due(18, "ahead(0, 61, 0)", x.ahead(0, 61, 0), BAD);
    due(18, "ahead(0, -1, 0)", x.ahead(0, -1, 0), BAD);
    due(18, "ahead(0, 0, 2)", x.ahead(0, 0, 2), BAD);
    due(18, "ahead(0, 0, -1)", x.ahead(0, 0, -1), BAD);
    due(19, "lost(0)", x.lost(0), 10);
    due(19, "lost(1)", x.lost(1), 1);
    due(19, "lost(2)", x.lost(2), NONE);
    due(19, "lost(3)", x.lost(3), 3);
    due(19, "lost(5)", x.lost(5), BAD);
    due(19, "lost(-1)", x.lost(-1), BAD);
    due(17, "nothing is changed", x.rule(2) + x.rule(3) + x.rule(4) + x.rule(8), 0);
    x.days(1);
    due(19, "lost(1) already", x.lost(1), 0);
    due(17, "runs(0, 1)", x.runs(0, 1), 2);
    due(17, "runs(2, 0) from day 1", x.runs(2, 0), 4);
  }

  private static void theEdgeOfSixtyDays() {
    ArkTerrace x = told("house 0 30 0;house 19 9 0;plain 0 1 1;plain 1 1 1;rise 3 5;rise 4 3;");
    due(19, "lost(0): on day 4 of the week", x.lost(0), 4);
    due(19, "lost(1)", x.lost(1), NONE);
    x = told("house 7 0 0;plain 0 1 1;rise 3 5;");
    due(19, "lost(0): the 8th rise is on day 53", x.lost(0), 53);
    x = told("house 8 0 0;plain 0 1 1;rise 3 5;");
    due(19, "lost(0): the 9th rise is on day 60", x.lost(0), 60);
    x = told("house 8 0 0;plain 0 1 1;rise 4 5;");
    due(19, "lost(0): the 9th rise is on day 61", x.lost(0), NONE);
  }

  private static void meetings() {
    ArkTerrace x = told("house 0 9 0;house 2 9 0;house 20 9 0;rise 0 5;rise 1 6;wind 5;");
    x.build(1, 3, 55);
    due(20, "meet(0, 1): one wind, one ahead, at the end of places", x.meet(0, 1), 49);
    x.blow(4);
    due(20, "meet(0, 1) without a wind", x.meet(0, 1), NONE);
    x.blow(5);
    x.build(1, 3, 51);
    due(20, "meet(0, 1): 0 is afloat a day before", x.meet(0, 1), 2);
    due(20, "meet(1, 0)", x.meet(1, 0), 2);
    due(20, "meet(0, 2)", x.meet(0, 2), NONE);
    due(20, "meet(0, 0)", x.meet(0, 0), BAD);
    due(20, "meet(0, 3)", x.meet(0, 3), BAD);
    due(20, "meet(3, 0)", x.meet(3, 0), BAD);
    due(20, "meet(-1, 0)", x.meet(-1, 0), BAD);
    due(20, "meet(0, -1)", x.meet(0, -1), BAD);
    x.build(1, 3, 60);
    due(20, "meet(0, 1) at the end of places", x.meet(0, 1), 49);
    x.days(2);
    x.build(1, 3, x.house(0, 3));
    due(20, "meet(0, 1) now", x.meet(0, 1), 0);
    x = told("house 5 9 0;house 5 9 0;");
    due(20, "meet(0, 1) at one place, not afloat", x.meet(0, 1), NONE);
    x = told("house 8 0 0;house 8 0 0;rise 3 5;");
    due(20, "meet(0, 1) on day 60", x.meet(0, 1), 60);
    x = told("house 8 0 0;house 8 0 0;rise 4 5;");
    due(20, "meet(0, 1) on day 61", x.meet(0, 1), NONE);
  }

  private static void packing() {
    ArkTerrace x = told("house 1 5 0;house 1 40 0;plain 0 3 5;plain 0 2 4;plain 0 5 9;plain 0 4 1;plain 1 1 1;plain 1 9 0;");
    due(21, "pack(0, 0): of {0, 1} and {2} the least number", x.pack(0, 0), 3);
    due(21, "pack(0, 1)", x.pack(0, 1), 9);
    due(21, "pack(0, 2)", x.pack(0, 2), 5);
    due(21, "pack(1, 0): what costs nothing makes the number greater", x.pack(1, 0), 16);
    due(21, "pack(1, 1)", x.pack(1, 1), 1);
    due(21, "pack(1, 2)", x.pack(1, 2), 1);
    x.alter(0, 2, 4);
    due(21, "pack(0, 0)", x.pack(0, 0), 4);
    x.build(0, 1, 0);
    for (int what = 0; what < 3; what++) due(21, "pack(0, " + what + ") of no room", x.pack(0, what), 0);
    due(21, "pack(2, 0)", x.pack(2, 0), BAD);
    due(21, "pack(-1, 0)", x.pack(-1, 0), BAD);
    due(21, "pack(0, 3)", x.pack(0, 3), BAD);
    due(21, "pack(0, -1)", x.pack(0, -1), BAD);
    x = told("house 1 6 0;plain 0 3 5;plain 0 3 4;plain 0 3 9;rise 0 8;");
    x.stow(0);
    x.stow(1);
    x.days(1);
    due(21, "pack(0, 0) without the lost one", x.pack(0, 0), 3);
    x = told("house 1 6 0;father 0 4 3;self 0 3 3;piano 0 1 9;");
    due(21, "pack(0, 0) by kinds", x.pack(0, 0), 3);
    due(21, "pack(0, 1) by kinds", x.pack(0, 1), 19);
    due(21, "pack(0, 2) by kinds", x.pack(0, 2), 5);
  }

  private static void needs() {
    ArkTerrace x = told("house 3 9 2;house 20 9 3;plain 0 3 1;piano 0 2 1;plain 1 9 9;rise 0 8;");
    due(22, "need(0, 0)", x.need(0, 0), 0);
    due(22, "need(0, 1): 7 and a leak of 2", x.need(0, 1), 9);
    due(22, "need(0, 7)", x.need(0, 7), 7 + 2 * 7);
    due(22, "need(0, 16)", x.need(0, 16), 39);
    due(22, "need(0, 17)", x.need(0, 17), NONE);
    due(22, "need(1, 21): never afloat", x.need(1, 21), 0);
    due(22, "need(2, 0)", x.need(2, 0), BAD);
    due(22, "need(-1, 0)", x.need(-1, 0), BAD);
    due(22, "need(0, 61)", x.need(0, 61), BAD);
    due(22, "need(0, -1)", x.need(0, -1), BAD);
    x.stow(0);
    x.days(1);
    due(8, "the piano is lost", x.thing(1, 4), 2);
    due(22, "need(0, 1) of what is not lost", x.need(0, 1), 5);
    due(22, "the room is as it was", x.house(0, 1), 7);
    x = told("house 0 0 0;plain 0 9 1;piano 0 9 1;piano 0 7 1;rise 0 8;");
    due(22, "need(0, 1) beyond 40", x.need(0, 1), NONE);
    x.alter(0, 1, 8);
    due(22, "need(0, 1) of 40", x.need(0, 1), 40);
  }

  private static void heights() {
    ArkTerrace x = told("house 0 9 0;house 0 9 0;plain 0 1 1;plain 1 2 1;rise 0 8;rise 1 6;rise 2 0;");
    due(23, "high(0, 0)", x.high(0, 0), 0);
    due(23, "high(0, 1)", x.high(0, 1), 4);
    due(23, "high(0, 2)", x.high(0, 2), 6);
    due(23, "high(0, 60)", x.high(0, 60), 20);
    x.stow(1);
    due(23, "high(1, 60) with all in", x.high(1, 60), 0);
    x.build(1, 2, 1);
    due(23, "high(1, 7): a leak of 7", x.high(1, 7), 0);
    due(23, "high(1, 8): one day must be dry", x.high(1, 8), 2);
    due(23, "high(2, 0)", x.high(2, 0), BAD);
    due(23, "high(-1, 0)", x.high(-1, 0), BAD);
    due(23, "high(0, 61)", x.high(0, 61), BAD);
    due(23, "high(0, -1)", x.high(0, -1), BAD);
    x.days(1);
    due(23, "high(0, 9) of what is lost already", x.high(0, 9), 0);
  }

  private static void leaking() {
    ArkTerrace x = told("house 0 6 1;plain 0 2 1;plain 0 1 5;rise 0 8;");
    due(24, "leak(0, 0)", x.leak(0, 0), 3);
    x.stow(0);
    x.stow(1);
    due(24, "leak(0, 1)", x.leak(0, 1), 3);
    due(24, "leak(0, 2)", x.leak(0, 2), 1);
    due(24, "leak(0, 4): the last is lost by 1 too", x.leak(0, 4), 1);
    due(24, "leak(0, 6): all is lost by 1 too", x.leak(0, 6), 3);
    x.build(0, 2, 0);
    due(24, "leak(0, 3)", x.leak(0, 3), 1);
    due(24, "leak(0, 60)", x.leak(0, 60), 0);
    due(24, "leak(1, 0)", x.leak(1, 0), BAD);
    due(24, "leak(-1, 0)", x.leak(-1, 0), BAD);
    due(24, "leak(0, 61)", x.leak(0, 61), BAD);
    due(24, "leak(0, -1)", x.leak(0, -1), BAD);
    due(24, "the leak is as it was", x.house(0, 2), 0);
  }

  private static void swapping() {
    ArkTerrace x = told("house 0 9 0;house 20 9 0;plain 0 1 5;plain 0 1 7;plain 1 1 1;plain 1 1 7;rise 0 8;");
    x.days(0);
    due(25, "swap(1, 0): 1 with 2", x.swap(1, 0), 12);
    due(25, "swap(1, 1)", x.swap(1, 1), 6);
    due(25, "swap(0, 0)", x.swap(0, 0), NONE);
    due(25, "swap(0, 1)", x.swap(0, 1), NONE);
    x.alter(1, 2, 5);
    due(25, "swap(1, 0): of two the least", x.swap(1, 0), 2);
    due(25, "swap(1, 1)", x.swap(1, 1), 6);
    x.alter(2, 2, 5);
    due(25, "swap(1, 0): none is less", x.swap(1, 0), NONE);
    due(25, "swap(1, 1): none is less", x.swap(1, 1), NONE);
    due(25, "swap(61, 0)", x.swap(61, 0), BAD);
    due(25, "swap(-1, 0)", x.swap(-1, 0), BAD);
    due(25, "swap(1, 2)", x.swap(1, 2), BAD);
    due(25, "swap(1, -1)", x.swap(1, -1), BAD);
    due(25, "the houses are as they were", x.house(0, 5), 3);
    x = told("house 0 2 0;house 20 9 0;piano 0 1 9;plain 1 2 0;plain 1 2 0;plain 0 1 8;rise 0 8;");
    x.stow(0);
    x.stow(2);
    due(25, "swap(1, 0): 3 stays out, 1 too", x.swap(1, 0), 13);
    due(25, "swap(1, 1)", x.swap(1, 1), 0);
    x.days(1);
    due(25, "sorrow", x.rule(4), 8);
    due(25, "swap(3, 0): 3 is lost", x.swap(3, 0), NONE);
    x = told("house 0 9 3;house 9 9 0;plain 0 9 9;plain 1 1 7;plain 0 1 9;rise 0 8;rise 1 8;rise 2 8;rise 3 0;");
    x.stow(0);
    x.days(1);
    due(25, "sorrow", x.rule(4), 18);
    due(8, "both are lost", x.rule(8), 5);
    due(17, "runs(2, 0): 1 will be lost", x.runs(2, 0), 7);
    due(25, "swap(2, 0): it would be saved by a lost one, which is none", x.swap(2, 0), NONE);
    x = told("house 9 9 0;house 0 9 3;plain 0 1 7;plain 1 9 9;rise 0 8;rise 1 8;rise 2 8;rise 3 0;");
    x.days(1);
    due(25, "swap(2, 0): likewise, the lost one behind", x.swap(2, 0), NONE);
    x = told("house 0 9 3;house 20 9 0;plain 0 6 9;plain 1 1 1;plain 0 1 9;rise 0 8;");
    x.stow(0);
    x.days(1);
    due(25, "swap(1, 0) from an ark that is afloat", x.swap(1, 0), 1);
    due(25, "swap(1, 1): what is out there is not lost", x.swap(1, 1), 0);
  }

  private static void saving() {
    ArkTerrace x = told("house 0 4 0;house 20 9 0;plain 0 2 3;plain 0 4 5;plain 0 5 9;plain 0 2 5;plain 1 1 9;rise 0 8;");
    due(26, "save(1, 0): 1 and 3 as much", x.save(1, 0), 1);
    due(26, "save(1, 1)", x.save(1, 1), 17);
    due(26, "save(0, 0)", x.save(0, 0), NONE);
    due(26, "save(0, 1)", x.save(0, 1), NONE);
    x.stow(0);
    due(26, "save(1, 0): 1 can not", x.save(1, 0), 3);
    due(26, "save(1, 1)", x.save(1, 1), 14);
    x.stow(3);
    due(26, "save(1, 0): the ark is full", x.save(1, 0), NONE);
    due(26, "save(61, 0)", x.save(61, 0), BAD);
    due(26, "save(-1, 0)", x.save(-1, 0), BAD);
    due(26, "save(0, 2)", x.save(0, 2), BAD);
    due(26, "save(0, -1)", x.save(0, -1), BAD);
    due(26, "in as it was", x.rule(7), 9);
    x.days(1);
    due(26, "save(1, 0) afloat", x.save(1, 0), NONE);
    x = told("house 0 4 0;plain 0 4 9;plain 0 4 9;rise 0 8;");
    due(26, "save(1, 0): the first", x.save(1, 0), 0);
    due(26, "save(1, 1)", x.save(1, 1), 9);
    x = told("house 0 4 1;plain 0 4 9;plain 0 4 0;rise 0 8;");
    due(26, "save(1, 0): it is lost all the same", x.save(1, 0), NONE);
  }

  private static void bestKind() {
    ArkTerrace x = told("house 0 4 0;plain 0 4 2;plain 0 1 9;self 0 5 0;rise 0 8;");
    due(27, "kind(0, 1, 0) out: plain and piano alike", x.kind(0, 1, 0), 0);
    due(27, "kind(0, 1, 1)", x.kind(0, 1, 1), 12);
    due(27, "kind(2, 1, 0)", x.kind(2, 1, 0), 0);
    due(27, "kind(2, 1, 1)", x.kind(2, 1, 1), 11);
    due(27, "kind(2, 0, 0)", x.kind(2, 0, 0), 0);
    x.stow(0);
    x.alter(1, 2, 1);
    x.build(0, 1, 3);
    due(27, "kind(0, 1, 0) in: a father is small", x.kind(0, 1, 0), 2);
    due(27, "kind(0, 1, 1)", x.kind(0, 1, 1), 2);
    due(27, "kind(3, 1, 0)", x.kind(3, 1, 0), BAD);
    due(27, "kind(-1, 1, 0)", x.kind(-1, 1, 0), BAD);
    due(27, "kind(0, 61, 0)", x.kind(0, 61, 0), BAD);
    due(27, "kind(0, -1, 0)", x.kind(0, -1, 0), BAD);
    due(27, "kind(0, 1, 2)", x.kind(0, 1, 2), BAD);
    due(27, "kind(0, 1, -1)", x.kind(0, 1, -1), BAD);
    due(27, "kinds as they were", x.thing(0, 0) + 10 * x.thing(2, 0), 30);
    x.days(1);
    due(27, "kind(0, 9, 0) of a lost one", x.kind(0, 9, 0), 0);
    due(27, "kind(0, 9, 1) of a lost one", x.kind(0, 9, 1), 0);
  }

  private static void storms() {
    ArkTerrace x = told("house 1 9 0;plain 0 1 6;");
    due(28, "luck(3, 0, 1, 0): a storm is 2", x.luck(3, 0, 1, 0), 7);
    due(28, "luck(3, 0, 1, 1)", x.luck(3, 0, 1, 1), 10);
    due(28, "luck(5, 0, 1, 0)", x.luck(5, 0, 1, 0), 1);
    due(28, "luck(5, 0, 1, 1)", x.luck(5, 0, 1, 1), 2);
    due(28, "luck(3, 0, 2, 0)", x.luck(3, 0, 2, 0), 49);
    due(28, "luck(3, 0, 2, 1)", x.luck(3, 0, 2, 1), 100);
    due(28, "luck(3, 0, 8, 0)", x.luck(3, 0, 8, 0), 5764801);
    due(28, "luck(3, 0, 8, 1)", x.luck(3, 0, 8, 1), 100000000);
    due(28, "luck(0, 0, 8, 0)", x.luck(0, 0, 8, 0), 1);
    due(28, "luck(0, 0, 8, 1)", x.luck(0, 0, 8, 1), 1);
    due(28, "luck(10, 0, 8, 0)", x.luck(10, 0, 8, 0), 0);
    due(28, "luck(10, 0, 8, 1)", x.luck(10, 0, 8, 1), 1);
    due(28, "luck(10, 0, 0, 0)", x.luck(10, 0, 0, 0), 1);
    due(29, "mean(3, 1, 0)", x.mean(3, 1, 0), 9);
    due(29, "mean(3, 1, 1)", x.mean(3, 1, 1), 5);
    due(29, "mean(1, 1, 0)", x.mean(1, 1, 0), 3);
    due(29, "mean(1, 1, 1)", x.mean(1, 1, 1), 5);
    due(29, "mean(5, 0, 0)", x.mean(5, 0, 0), 0);
    due(29, "mean(5, 0, 1)", x.mean(5, 0, 1), 1);
    due(29, "mean(3, 2, 0)", x.mean(3, 2, 0), 153);
    due(29, "mean(3, 2, 1)", x.mean(3, 2, 1), 50);
    due(29, "mean(10, 8, 0)", x.mean(10, 8, 0), 6);
    due(29, "mean(10, 8, 1)", x.mean(10, 8, 1), 1);
    due(29, "mean(0, 8, 0)", x.mean(0, 8, 0), 0);
    due(29, "mean(0, 8, 1)", x.mean(0, 8, 1), 1);
    int[][] luck = {{-1, 0, 1, 0}, {11, 0, 1, 0}, {1, 1, 1, 0}, {1, -1, 1, 0}, {1, 0, -1, 0}, {1, 0, 9, 0},
        {1, 0, 1, 2}, {1, 0, 1, -1}};
    for (int[] a : luck) {
      due(28, "luck(" + a[0] + ", " + a[1] + ", " + a[2] + ", " + a[3] + ")", x.luck(a[0], a[1], a[2], a[3]), BAD);
      if (a[1] == 0) due(29, "mean(" + a[0] + ", " + a[2] + ", " + a[3] + ")", x.mean(a[0], a[2], a[3]), BAD);
    }
    due(28, "nothing is changed", x.rule(2) + x.rule(3) + x.rule(8), 0);
    x = told("house 5 9 0;plain 0 1 6;rise 0 8;");
    due(28, "luck(4, 0, 1, 0): 8 and 2 are 10, whatever the bounds", x.luck(4, 0, 1, 0), 3);
    due(28, "luck(4, 0, 1, 1)", x.luck(4, 0, 1, 1), 5);
    due(29, "mean(4, 1, 0): a storm alone", x.mean(4, 1, 0), 12);
    due(29, "mean(4, 1, 1)", x.mean(4, 1, 1), 5);
    x.build(0, 0, 3);
    due(29, "mean(4, 1, 0): a calm day, too", x.mean(4, 1, 0), 6);
    due(29, "mean(0, 1, 0)", x.mean(0, 1, 0), 6);
    x = told("house 3 9 0;plain 0 1 6;rise 0 2;rise 1 4;rise 2 4;");
    due(28, "luck(5, 0, 3, 0): the level is 0 at least by each day", x.luck(5, 0, 3, 0), 3);
    due(28, "luck(5, 0, 3, 1)", x.luck(5, 0, 3, 1), 4);
    x = told("house 1 9 0;plain 0 1 6;rise 0 8;");
    x.days(1);
    due(28, "luck(5, 0, 0, 0) of a lost one", x.luck(5, 0, 0, 0), 0);
    due(28, "luck(5, 0, 0, 1) of a lost one", x.luck(5, 0, 0, 1), 1);
    due(29, "mean(5, 8, 0): by how much it is more", x.mean(5, 8, 0), 0);
  }

  private static void seeing() {
    ArkTerrace x = told("house 0 9 0;");
    due(30, "see(21, 0)", x.see(21, 0), BAD);
    due(30, "see(-1, 0)", x.see(-1, 0), BAD);
    due(30, "see(0, 1000)", x.see(0, 1000), BAD);
    due(30, "see(0, -1)", x.see(0, -1), BAD);
    due(30, "see(20, 999)", x.see(20, 999), 1);
    for (int k = 2; k <= 6; k++) due(30, "see(0, 0)", x.see(0, 0), k);
    due(30, "see(0, 0)", x.see(0, 0), FULL);
    due(30, "see(21, 0) when full", x.see(21, 0), BAD);
    due(31, "forget(7)", x.forget(7), BAD);
    due(31, "forget(-1)", x.forget(-1), BAD);
    due(31, "forget(6)", x.forget(6), 6);
    due(31, "forget(2)", x.forget(2), 6);
    due(31, "forget(3)", x.forget(3), BAD);
    due(33, "leaks(0) by the first", x.leaks(0), 0);
    due(31, "forget(0)", x.forget(0), 2);
    due(33, "leaks(0) by none", x.leaks(0), 15);
    due(31, "forget(0)", x.forget(0), 0);
  }

  private static void whatItWas() {
    ArkTerrace x = told("house 0 10 0;house 20 1 0;plain 0 4 2;plain 1 1 1;rise 0 8;");
    due(32, "kinds(0), nothing seen", x.kinds(0), 15);
    due(34, "rooms(0), nothing seen", x.rooms(0), MAX);
    x.see(1, 2);
    due(32, "kinds(0) out: plain or piano", x.kinds(0), 3);
    due(32, "kinds(1): not by its kind", x.kinds(1), 15);
    x.see(0, 0);
    due(32, "kinds(0)", x.kinds(0), 3);
    x.see(0, 1);
    due(32, "kinds(0) against what is", x.kinds(0), 0);
    x.forget(0);
    x.see(1, 7);
    due(32, "kinds(0): a self", x.kinds(0), 8);
    x.forget(0);
    x.stow(0);
    x.see(4, 0);
    x.see(5, 2);
    due(33, "leaks(0): none", x.leaks(0), 0);
    x.forget(0);
    x.see(2, 0);
    x.see(3, 2);
    due(33, "leaks(0): 3 leaves 1 behind 3 days, 4 behind 2", x.leaks(0), 8);
    due(33, "leaks(1)", x.leaks(1), 0);
    due(34, "rooms(0) without a leak", x.rooms(0), 0);
    x.build(0, 2, 1);
    due(34, "rooms(0) by a leak of 1: 6", x.rooms(0), 64);
    x.forget(1);
    due(34, "rooms(0): 6 and more", x.rooms(0), MAX & ~63);
    x.forget(0);
    x.see(3, 2);
    due(34, "rooms(0): 6 and less", x.rooms(0), 127);
    due(32, "kinds(5)", x.kinds(5), BAD);
    due(32, "kinds(-1)", x.kinds(-1), BAD);
    due(33, "leaks(2)", x.leaks(2), BAD);
    due(33, "leaks(-1)", x.leaks(-1), BAD);
    due(34, "rooms(2)", x.rooms(2), BAD);
    due(34, "rooms(-1)", x.rooms(-1), BAD);
    due(34, "the room is as it was", x.house(0, 1), 10);
    x.days(1);
    due(34, "rooms(0) from how it stands now", x.rooms(0), 127);
    x = told("house 0 10 0;plain 0 4 2;plain 0 3 9;rise 0 8;");
    x.stow(0);
    x.days(1);
    x.see(1, 9);
    due(34, "rooms(0): sorrow, not how much more", x.rooms(0), MAX & ~15);
    x.forget(0);
    x.see(1, 11);
    due(34, "rooms(0): 3 and less", x.rooms(0), 15);
  }

  private static void asking() {
    ArkTerrace x = told("house 0 10 1;house 20 1 0;plain 0 4 2;plain 1 1 1;rise 0 8;");
    x.stow(0);
    // Behind n days a room of 3 + n and less has lost it: 4 + n rooms of 31; 16 at the worst behind 11 and 12.
    due(35, "ask(0, 0)", x.ask(0, 0), 11);
    due(35, "ask(0, 1)", x.ask(0, 1), 16);
    due(35, "ask(1, 0)", x.ask(1, 0), NONE);
    due(35, "ask(1, 1)", x.ask(1, 1), NONE);
    x.see(2, 2);
    // The rooms 0 to 5 are left: they are apart behind 1 day alone (0 to 4, 5).
    due(35, "ask(0, 0)", x.ask(0, 0), 1);
    due(35, "ask(0, 1)", x.ask(0, 1), 5);
    x.see(1, 0);
    due(35, "ask(0, 0) with one left", x.ask(0, 0), NONE);
    due(35, "ask(0, 1) with one left", x.ask(0, 1), NONE);
    x.see(1, 1);
    due(35, "ask(0, 0) with none left", x.ask(0, 0), NONE);
    due(35, "ask(2, 0)", x.ask(2, 0), BAD);
    due(35, "ask(-1, 0)", x.ask(-1, 0), BAD);
    due(35, "ask(0, 2)", x.ask(0, 2), BAD);
    due(35, "ask(0, -1)", x.ask(0, -1), BAD);
    x.forget(0);
    x.build(0, 2, 3);
    x.see(6, 0);
    // The rooms 22 to 30 are left; behind 7 days 22 to 24 are told from the rest, behind 8 days 22 to 27.
    due(35, "ask(0, 0)", x.ask(0, 0), 7);
    due(35, "ask(0, 1)", x.ask(0, 1), 6);
    x = told("house 3 10 1;plain 0 4 2;rise 5 8;rise 6 0;");
    x.stow(0);
    // It is afloat on the days 6, 13, 20 alone: 5, 6, 7 of 31 are told from the rest.
    due(35, "ask(0, 0) behind the last day", x.ask(0, 0), 20);
    due(35, "ask(0, 1) behind the last day", x.ask(0, 1), 24);
    x = told("house 0 10 1;plain 0 4 2;plain 0 6 3;rise 0 8;");
    x.stow(0);
    x.stow(1);
    // Behind n days: both lost, rooms to 3 + n; one lost, to 9 + n; none lost: 4 + n, 6, 21 - n: 8 days, 13; 9 days, 13.
    due(35, "ask(0, 0) of three answers", x.ask(0, 0), 8);
    due(35, "ask(0, 1) of three answers", x.ask(0, 1), 13);
  }

  private static void drifting() {
    ArkTerrace x = new ArkTerrace();
    due(36, "drift(1, 1, 0) without houses", x.drift(1, 1, 0), STATE);
    due(36, "drift(1, 0, 0) without houses", x.drift(1, 0, 0), BAD);
    x = told("house 0 9 0;plain 0 1 5;rise 0 8;wind 8;");
    due(36, "drift(1, 0, 0)", x.drift(1, 0, 0), BAD);
    due(36, "drift(1, 61, 0)", x.drift(1, 61, 0), BAD);
    due(36, "drift(1, 1, 2)", x.drift(1, 1, 2), BAD);
    due(36, "drift(1, 1, -1)", x.drift(1, 1, -1), BAD);
    // Seed 1 becomes 1103527590: 16838 is got, whose rest by 9 is 8. Seed 0 becomes 12345: 0 is got.
    due(36, "drift(1, 1, 0)", x.drift(1, 1, 0), 5);
    due(36, "drift(1, 1, 1)", x.drift(1, 1, 1), 1);
    due(36, "drift(0, 1, 0)", x.drift(0, 1, 0), 0);
    due(36, "drift(0, 1, 1)", x.drift(0, 1, 1), 0);
    due(36, "nothing is changed", x.rule(2) + x.rule(3) + x.rule(4), 0);
    due(36, "wind as it was", x.rule(5), 8);
    due(36, "rise as it was", x.rise(0), 8);
    x.days(1);
    due(36, "sorrow", x.rule(4), 5);
    due(36, "drift(1, 1, 0): by how much it is more", x.drift(1, 1, 0), 0);
    x = told("house 0 9 0;plain 0 1 5;rise 0 8;wind 8;");
    for (int seed = -3; seed < 40; seed++) {
      int s = seed;
      int level = 0;
      boolean lost = false;
      for (int n = 1; n <= 60; n++) {
        s = s * 1103515245 + 12345;
        int got = 0;
        for (int b = 30; b >= 16; b--) got = 2 * got + (s >> b & 1);
        level = Math.max(0, Math.min(20, level + got % 9 - 4));
        lost |= level > 0;
        if (n % 7 == 1 || n == 60) {
          due(36, "drift(" + seed + ", " + n + ", 0)", x.drift(seed, n, 0), lost ? 5 : 0);
          due(36, "drift(" + seed + ", " + n + ", 1)", x.drift(seed, n, 1), level > 0 ? 1 : 0);
          x = told("house 0 9 0;plain 0 1 5;rise 0 8;wind 8;");
        }
      }
    }
  }

  private static void images() {
    ArkTerrace x = told(COAST);
    due(37, "keep(2)", x.keep(2), BAD);
    due(37, "keep(-1)", x.keep(-1), BAD);
    due(38, "back(2)", x.back(2), BAD);
    due(38, "back(-1)", x.back(-1), BAD);
    due(38, "back(0)", x.back(0), STATE);
    due(37, "keep(0)", x.keep(0), 0);
    due(38, "back(1)", x.back(1), STATE);
    x.stow(0);
    x.days(3);
    x.see(1, 1);
    due(37, "keep(1)", x.keep(1), 0);
    due(43, "count(1)", x.count(1), 2);
    int[] was = new int[9];
    for (int what = 0; what < 9; what++) was[what] = x.rule(what);
    int[] place = {x.house(0, 3), x.house(1, 3)};
    int room = x.house(0, 1);
    x.days(20);
    x.blow(0);
    x.tide(1, 0);
    x.build(0, 0, 20);
    x.build(0, 2, 3);
    for (int what = 0; what < 3; what++) x.alter(1, what, 1);
    due(38, "back(1)", x.back(1), 3);
    for (int what = 0; what < 9; what++) due(38, "rule(" + what + ")", x.rule(what), was[what]);
    due(38, "height", x.house(0, 0), 2);
    due(38, "room", x.house(0, 1), room);
    due(38, "leak", x.house(0, 2), 1);
    due(38, "place 0", x.house(0, 3), place[0]);
    due(38, "place 1", x.house(1, 3), place[1]);
    due(38, "rise", x.rise(1), 4);
    due(38, "kind", x.thing(1, 0), 1);
    due(38, "size", x.thing(1, 2), 5);
    due(38, "worth", x.thing(1, 3), 9);
    due(38, "back(0)", x.back(0), 0);
    due(38, "all out", x.rule(7) + x.rule(8), 0);
    due(38, "what is seen stays", x.count(0), 1);
    x.days(2);
    due(37, "keep(0) again", x.keep(0), 1);
    x.days(2);
    due(38, "back(0)", x.back(0), 2);
    due(38, "back(1) still", x.back(1), 3);
  }

  private static void sheets() {
    ArkTerrace x = told("house 0 40 0;plain 0 1 1;plain 0 2 1;plain 0 3 1;");
    due(39, "sheet(-1, 0, 1)", x.sheet(-1, 0, 1), BAD);
    due(39, "sheet(4, 0, 1)", x.sheet(4, 0, 1), BAD);
    due(39, "sheet(0, 3, 1)", x.sheet(0, 3, 1), BAD);
    due(39, "sheet(0, -1, 1)", x.sheet(0, -1, 1), BAD);
    due(39, "sheet(0, 0, 41)", x.sheet(0, 0, 41), BAD);
    due(39, "sheet(0, 0, -1)", x.sheet(0, 0, -1), -14);
    due(39, "sheet(0, 0, MIN)", x.sheet(0, 0, MIN), -14);
    due(39, "sheet(4, 0, -1)", x.sheet(4, 0, -1), BAD);
    due(39, "sheet(0, 3, -1)", x.sheet(0, 3, -1), BAD);
    due(43, "count(3)", x.count(3), NONE);
    due(39, "sheet(0, 2, 0)", x.sheet(0, 2, 0), 1);
    due(43, "count(3)", x.count(3), 0);
    due(40, "lay(0, 0, 0) of no cells", x.lay(0, 0, 0), -12);
    due(39, "sheet(0, 0, 40)", x.sheet(0, 0, 40), 1);
    due(43, "count(3)", x.count(3), 40);
    due(40, "lay(0, 39, 258)", x.lay(0, 39, 258), 1);
    due(41, "read(0, 0, 39, 1): 258 is 2 as a byte", x.read(0, 0, 39, 1), 1);
    due(40, "rule(7)", x.rule(7), 4);
    due(39, "sheet(0, 0, 39) refused by n", x.sheet(0, 0, 77), BAD);
    due(43, "count(3) as it was", x.count(3), 40);
    due(39, "sheet(0, 0, 40) anew", x.sheet(0, 0, 40), 1);
    due(41, "read(0, 0, 39, 1): cells are 0", x.read(0, 0, 39, 1), 1);
    due(40, "rule(7)", x.rule(7), 5);
    due(40, "lay(0, 40, 0)", x.lay(0, 40, 0), -12);
    due(40, "lay(0, -1, 0)", x.lay(0, -1, 0), -12);
    due(40, "lay(0, MIN, 0)", x.lay(0, MIN, 0), -12);
    due(40, "lay(0, MAX, 0)", x.lay(0, MAX, 0), -12);
    due(40, "lay(4, 0, 0)", x.lay(4, 0, 0), BAD);
    due(40, "lay(-1, 0, 0)", x.lay(-1, 0, 0), BAD);
    due(40, "lay(3, -1, 0)", x.lay(3, -1, 0), -11);
    x.fetch(0);
    x.fetch(2);
    x.sheet(1, 0, 1);
    due(40, "lay(1, 0, 255) is -1", x.lay(1, 0, 255), 1);
    due(41, "read(1, 0, 0, 1)", x.read(1, 0, 0, 1), -20);
    x.sheet(1, 1, 1);
    x.lay(1, 0, 257);
    due(41, "read(1, 1, 0, 1): 257 is 257 as a short", x.read(1, 1, 0, 1), -20);
    x.lay(1, 0, 65537);
    due(41, "read(1, 1, 0, 1): 65537 is 1 as a short", x.read(1, 1, 0, 1), 1);
    due(41, "rule(7)", x.rule(7), 2);
    x.sheet(1, 2, 1);
    x.lay(1, 0, 65536);
    due(41, "read(1, 2, 0, 1): an int has all its bits", x.read(1, 2, 0, 1), -20);
    x.lay(1, 0, 2);
    due(41, "read(1, 2, 0, 1)", x.read(1, 2, 0, 1), 1);
    due(41, "rule(7)", x.rule(7), 6);
  }

  private static void reading() {
    ArkTerrace x = told("house 0 9 0;house 0 9 0;plain 0 4 1;plain 0 5 1;plain 0 1 1;plain 1 1 1;");
    x.sheet(1, 1, 4);
    for (int k = 0; k < 4; k++) x.lay(1, k, k);
    due(41, "read(4, 1, 0, 0)", x.read(4, 1, 0, 0), BAD);
    due(41, "read(-1, 1, 0, 0)", x.read(-1, 1, 0, 0), BAD);
    due(41, "read(1, 3, 0, 0)", x.read(1, 3, 0, 0), BAD);
    due(41, "read(1, -1, 0, 0)", x.read(1, -1, 0, 0), BAD);
    due(41, "read(1, 1, 0, 41)", x.read(1, 1, 0, 41), BAD);
    due(41, "read(1, 1, 0, -1)", x.read(1, 1, 0, -1), BAD);
    due(41, "read(1, 1, 0, 4): the third is full", x.read(1, 1, 0, 4), -22);
    due(41, "none came", x.rule(7), 0);
    due(42, "torn()", x.torn(), 0);
    due(41, "read(1, 1, 2, 3): two are whole ahead of the end", x.read(1, 1, 2, 3), 2);
    due(42, "torn()", x.torn(), 2);
    due(41, "two came", x.rule(7), 12);
    due(41, "read(1, 1, 2, 1): it is in", x.read(1, 1, 2, 1), -20);
    due(42, "torn() of one that is refused stays", x.torn(), 2);
    due(41, "read(9, 1, 0, 1)", x.read(9, 1, 0, 1), BAD);
    due(42, "torn() of a bad one stays", x.torn(), 2);
    due(41, "read(1, 0, 0, 1) of another lane", x.read(1, 0, 0, 1), 0);
    due(42, "torn()", x.torn(), 3);
    due(41, "read(1, 2, -1, 1): another lane ahead of the index", x.read(1, 2, -1, 1), 0);
    due(42, "torn()", x.torn(), 3);
    due(41, "read(2, 0, -1, 40) of nothing", x.read(2, 0, -1, 40), 0);
    due(42, "torn()", x.torn(), 1);
    due(41, "read(2, 0, 0, 0) of nothing", x.read(2, 0, 0, 0), 0);
    due(42, "torn() of none", x.torn(), 0);
    due(41, "read(1, 1, -1, 2)", x.read(1, 1, -1, 2), 0);
    due(42, "torn()", x.torn(), 2);
    due(41, "read(1, 0, MAX, 0)", x.read(1, 0, MAX, 0), 0);
    due(42, "torn()", x.torn(), 0);
    due(41, "read(1, 1, MAX, 40)", x.read(1, 1, MAX, 40), 0);
    due(42, "torn()", x.torn(), 2);
    due(41, "read(1, 1, MIN, 40)", x.read(1, 1, MIN, 40), 0);
    due(41, "read(1, 1, 4, 1)", x.read(1, 1, 4, 1), 0);
    x.lay(1, 0, 0);
    x.lay(1, 1, 0);
    due(41, "read(1, 1, 0, 2): one thing twice", x.read(1, 1, 0, 2), -21);
    due(41, "none came", x.rule(7), 12);
    x.lay(1, 3, 4);
    due(41, "read(1, 1, 3, 2): refused ahead of the end", x.read(1, 1, 3, 2), -20);
    x.sheet(0, 0, 40);
    due(41, "read(0, 0, 0, 40)", x.read(0, 0, 0, 40), -21);
    x.tide(0, 8);
    x.days(1);
    x.lay(1, 0, 3);
    due(41, "read(1, 1, 0, 1) afloat", x.read(1, 1, 0, 1), -20);
  }

  private static void aFullCoast() {
    ArkTerrace x = told("house 0 9 0;house 3 9 1;house 3 9 2;house 20 40 3;plain 0 9 1;piano 1 4 2;father 1 9 3;self 2 9 1;"
        + "plain 2 3 5;plain 3 9 9;piano 3 9 1;self 3 1 9;rise 0 8;");
    due(6, "rule(0)", x.rule(0), 4);
    due(6, "rule(1)", x.rule(1), 8);
    due(7, "house(3, 5)", x.house(3, 5), 224);
    due(21, "pack(3, 0)", x.pack(3, 0), 224);
    due(21, "pack(3, 1)", x.pack(3, 1), 38);
    due(21, "pack(3, 2)", x.pack(3, 2), 29);
    due(14, "stow(7)", x.stow(7), 38);
    due(14, "stow(1)", x.stow(1), 1);
    due(14, "stow(3)", x.stow(3), 3);
    due(14, "stow(4)", x.stow(4), 0);
    due(25, "swap(1, 0): 2 with 6", x.swap(1, 0), 26);
    due(25, "swap(1, 1): 0, 6 and 4 are lost", x.swap(1, 1), 1 + 1 + 5);
    due(16, "days(1): 0, 2 are out, 4 is the last", x.days(1), 1 + 9 + 5);
    due(6, "rule(8)", x.rule(8), 21);
    due(6, "rule(7)", x.rule(7), 138);
    due(6, "rule(6)", x.rule(6), 7);
    due(43, "count(4)", x.count(4), 9 + 8 + 7 + 40);
    due(43, "count(5)", x.count(5), 31);
    due(34, "rooms(2)", x.rooms(2), MAX);
  }

  private static void counts() {
    ArkTerrace x = told("house 0 9 2;house 20 40 0;plain 0 9 4;self 1 1 9;rise 0 8;");
    due(43, "count(4)", x.count(4), 49);
    due(43, "count(5)", x.count(5), 13);
    x.days(1);
    due(43, "count(4) behind a leak", x.count(4), 47);
    due(43, "count(5) with a lost one", x.count(5), 13);
    x.see(1, 1);
    x.see(1, 1);
    due(43, "count(0)", x.count(0), 2);
    x.keep(1);
    due(43, "count(1)", x.count(1), 1);
    x.feed('a');
    due(43, "count(2)", x.count(2), 1);
    x.sheet(1, 1, 7);
    due(43, "count(3)", x.count(3), NONE);
    x.sheet(0, 1, 7);
    due(43, "count(3)", x.count(3), 7);
    due(43, "count(6)", x.count(6), BAD);
    due(43, "count(-1)", x.count(-1), BAD);
  }

  public static void main(String[] args) {
    aNewObject();
    feedAndEnd();
    texts();
    aTextTellsAll();
    oneTextBehindAnother();
    whatThereIs();
    fillsAndCosts();
    whatIsChanged();
    stowAndFetch();
    aDay();
    dayBounds();
    theWeekGoesRound();
    byDays();
    theEdgeOfSixtyDays();
    meetings();
    packing();
    needs();
    heights();
    leaking();
    swapping();
    saving();
    bestKind();
    storms();
    seeing();
    whatItWas();
    asking();
    drifting();
    images();
    sheets();
    reading();
    aFullCoast();
    counts();
    System.out.println(asked + " answers, " + wrong + " not as due");
    if (wrong != 0) System.exit(1);
  }
}
