/** What the promises name as an edge, promise by promise, sentence by sentence. */
public final class EdgesOfCallsTest {
  private static final int BAD = Sentences.BAD, STATE = Sentences.STATE, FULL = Sentences.FULL, NONE = Sentences.NONE;
  private static final int MIN = Sentences.MIN, MAX = Sentences.MAX;

  /** Four houses, eight things of the first; all are afloat behind a day. */
  private static final String CROWD = "house 0 40 0;house 1 40 0;house 2 40 0;house 3 40 0;" + "plain 0 1 9;".repeat(8) + "rise 0 8;";
  /** The first house floats on the 60th day first, when a thing of it is lost that is out. */
  private static final String LATE = "house 8 3 0;house 20 9 0;plain 0 3 1;plain 1 3 0;rise 3 5;wind 6;";

  private static void sentence(int promise, String words, Runnable test) {
    Sentences.sentence(promise, words, test);
  }

  private static void due(String call, long got, long want) {
    Sentences.due(call, got, want);
  }

  private static ArkTerrace told(String text) {
    return Sentences.told(text);
  }

  private static int[] beyond(int least, int most) {
    return Sentences.beyond(least, most);
  }

  // ---- the text, what there is

  private static void aNewObject() {
    sentence(1, "No HOUSES, no THINGS; SHEETS have nothing.", () -> {
      ArkTerrace x = new ArkTerrace();
      for (int what = 0; what < 9; what++) due("rule(" + what + ")", x.rule(what), what == 5 ? 4 : 0);
      for (int d = 0; d < 7; d++) due("rise(" + d + ")", x.rise(d), 4);
      due("house(0, 0)", x.house(0, 0), BAD);
      due("thing(0, 0)", x.thing(0, 0), BAD);
      int[] count = {0, 0, 0, NONE, 0, 0};
      for (int what = 0; what < 6; what++) due("count(" + what + ")", x.count(what), count[what]);
      for (int k = 0; k < 4; k++) {
        due("lay(" + k + ", 0, 0)", x.lay(k, 0, 0), -11);
        for (int lane = 0; lane < 3; lane++) {
          due("read(" + k + ", " + lane + ", 0, 1)", x.read(k, lane, 0, 1), 0);
          due("torn()", x.torn(), 1);
        }
      }
      x = new ArkTerrace();
      due("fault()", x.fault(), 0);
      due("torn()", x.torn(), 0);
      due("back(0)", x.back(0), STATE);
      due("back(1)", x.back(1), STATE);
      due("end(0)", x.end(0), 0);
      due("forget(0)", x.forget(0), 0);
      due("text() of nothing", x.text(), 0);
    });
  }

  private static void theTape() {
    sentence(2, "A byte (0 to 127) comes behind THE TAPE: how many it has.", () -> {
      ArkTerrace x = new ArkTerrace();
      due("feed(0)", x.feed(0), 1);
      due("feed(127)", x.feed(127), 2);
      due("feed(32)", x.feed(32), 3);
      due("bytes", x.count(2), 3);
    });
    sentence(2, "BAD;", () -> {
      ArkTerrace x = new ArkTerrace();
      for (int c : beyond(0, 127)) due("feed(" + c + ")", x.feed(c), BAD);
      due("feed(288), 32 in its lowest bits", x.feed(288), BAD);
      due("bytes", x.count(2), 0);
    });
    sentence(2, "FULL: more than 160.", () -> {
      ArkTerrace x = new ArkTerrace();
      for (int k = 1; k <= 160; k++) due("feed(32)", x.feed(32), k);
      due("feed(32)", x.feed(32), FULL);
      due("feed(59)", x.feed(';'), FULL);
      due("bytes", x.count(2), 160);
      due("end(159)", x.end(159), 160);
      due("feed(32)", x.feed(32), 160);
      due("text()", x.text(), 0);
      due("feed(32)", x.feed(32), 1);
    });
    sentence(3, "THE TAPE keeps its first n bytes: how many it had.", () -> {
      ArkTerrace x = new ArkTerrace();
      Sentences.feedAll(x, "wind 6;%%");
      due("end(9)", x.end(9), 9);
      due("end(8)", x.end(8), 9);
      due("end(7)", x.end(7), 8);
      due("bytes", x.count(2), 7);
      due("text()", x.text(), 1);
      Sentences.feedAll(x, "wind 66");
      due("end(6)", x.end(6), 7);
      x.feed(';');
      due("text()", x.text(), 1);
      due("WIND", x.rule(5), 6);
      Sentences.feedAll(x, "%");
      due("end(0)", x.end(0), 1);
      due("end(0)", x.end(0), 0);
      due("text()", x.text(), 0);
    });
    sentence(3, "BAD (n above that, too).", () -> {
      ArkTerrace x = new ArkTerrace();
      due("end(1) of no bytes", x.end(1), BAD);
      x.feed(' ');
      x.feed(' ');
      for (int n : beyond(0, 2)) due("end(" + n + ") of 2", x.end(n), BAD);
      due("bytes", x.count(2), 2);
    });
  }

  private static void theText() {
    sentence(4, "THE TAPE (empty then, by a FAULT, too) tells all: how many lines", () -> {
      ArkTerrace x = new ArkTerrace();
      due("text() of nothing", x.text(), 0);
      Sentences.feedAll(x, "wind 6;level 3;");
      due("text()", x.text(), 2);
      due("bytes", x.count(2), 0);
      Sentences.feedAll(x, "cat");
      due("text() of cat", x.text(), -10);
      due("bytes", x.count(2), 0);
      Sentences.feedAll(x, "wind 7;");
      due("text()", x.text(), 1);
      due("LEVEL", x.rule(3), 0);
      Sentences.feedAll(x, "wind0;level0;rise0 0;rise1 0;rise2 0;rise3 0;rise4 0;rise5 0;rise6 0;house0 0 0;house0 0 0;house0 0 0;self0 1 0;self0 1 0;");
      due("text()", x.text(), 14);
    });
    sentence(4, "-10 less the place of its FAULT: that which was told stays.", () -> {
      ArkTerrace x = told("house 3 4 1;plain 0 2 3;wind 7;level 2;rise 1 5;");
      x.stow(0);
      x.keep(0);
      x.see(1, 2);
      x.days(1);
      Sentences.feedAll(x, "house 9 9 2;house 9 9 2;plain 0 9 9;wind 1;level 9;rise 1 1;rise 2 1;cat");
      due("text()", x.text(), -10 - 69);
      int[] rule = {1, 1, 1, 2, 0, 7, 0, 1, 0};
      for (int what = 0; what < 9; what++) due("rule(" + what + ")", x.rule(what), rule[what]);
      int[] house = {3, 4, 1, 50, 2, 1};
      for (int what = 0; what < 6; what++) due("house(0, " + what + ")", x.house(0, what), house[what]);
      int[] thing = {0, 0, 2, 3, 1, 2, 3};
      for (int what = 0; what < 7; what++) due("thing(0, " + what + ")", x.thing(0, what), thing[what]);
      due("rise(1)", x.rise(1), 5);
      due("rise(2)", x.rise(2), 4);
      due("SEEN", x.count(0), 1);
      due("back(0)", x.back(0), 0);
    });
    sentence(5, "The FAULT of the latest text(); 0.", () -> {
      ArkTerrace x = new ArkTerrace();
      due("fault() of none", x.fault(), 0);
      String[] texts = {"%", "cat", "wind 9;", "wind 1;wind 1;", "house 1 1 1;".repeat(5), "plain 0 1 1;"};
      for (int fault = 1; fault <= 6; fault++) {
        Sentences.feedAll(x, texts[fault - 1]);
        due("fault() ahead of text()", x.fault(), fault == 1 ? 0 : fault - 1);
        x.text();
        due("fault()", x.fault(), fault);
        due("fault() again", x.fault(), fault);
      }
      x.text();
      due("fault() of a text that is taken", x.fault(), 0);
    });
  }

  private static void whatThereIs() {
    sentence(6, "0 HOUSES, 1 THINGS, 2 DAY, 3 LEVEL, 4 SORROW, 5 WIND, 6 which ARKS are AFLOAT (bits), 7 which THINGS are IN (bits), 8 which are LOST (bits).", () -> {
      ArkTerrace x = told(CROWD);
      due("rule(0)", x.rule(0), 4);
      due("rule(1)", x.rule(1), 8);
      for (int i = 0; i < 8; i++) x.stow(i);
      due("rule(7), all", x.rule(7), 255);
      due("rule(6), none", x.rule(6), 0);
      due("rule(8), none", x.rule(8), 0);
      for (int i = 0; i < 8; i++) x.fetch(i);
      due("rule(7), none", x.rule(7), 0);
      x.days(1);
      due("rule(6), all", x.rule(6), 15);
      due("rule(8), all", x.rule(8), 255);
      due("rule(4)", x.rule(4), 72);
      due("rule(3)", x.rule(3), 4);
      due("rule(2)", x.rule(2), 1);
      due("rule(5)", x.rule(5), 4);
    });
    sentence(6, "BAD.", () -> {
      ArkTerrace x = told(CROWD);
      for (int what : beyond(0, 8)) due("rule(" + what + ")", x.rule(what), BAD);
    });
    sentence(7, "Of a HOUSE: 0 HEIGHT, 1 ROOM, 2 LEAK, 3 PLACE, 4 what THINGS IN its ARK FILL, 5 its THINGS (bits).", () -> {
      ArkTerrace x = told(CROWD);
      due("house(0, 5), all", x.house(0, 5), 255);
      due("house(3, 5), none", x.house(3, 5), 0);
      due("house(0, 4), nothing IN", x.house(0, 4), 0);
      for (int i = 0; i < 8; i++) x.stow(i);
      due("house(0, 4), all IN", x.house(0, 4), 8);
      due("house(1, 4)", x.house(1, 4), 0);
      x.build(0, 1, 0);
      due("house(0, 4), more than ROOM", x.house(0, 4), 8);
      x.days(1);
      due("house(0, 4), all LOST", x.house(0, 4), 0);
      due("house(0, 5), all LOST", x.house(0, 5), 255);
    });
    sentence(7, "BAD.", () -> {
      ArkTerrace x = told(CROWD);
      for (int h : beyond(0, 3)) due("house(" + h + ", 0)", x.house(h, 0), BAD);
      for (int what : beyond(0, 5)) due("house(0, " + what + ")", x.house(0, what), BAD);
      x = told("house 1 1 1;");
      due("house(1, 0) of one", x.house(1, 0), BAD);
    });
    sentence(8, "Of a THING: 0 KIND, 1 HOUSE, 2 SIZE, 3 WORTH, 4 0 OUT, 1 IN, 2 LOST, 5 what it FILLS, 6 what it COSTS.", () -> {
      ArkTerrace x = told("house 0 9 0;house 3 1 0;father 1 1 0;self 0 9 9;rise 0 5;");
      int[][] thing = {{2, 1, 1, 0, 0, 1, 0}, {3, 0, 9, 9, 0, 6, 28}};
      for (int i = 0; i < 2; i++)
        for (int what = 0; what < 7; what++) due("thing(" + i + ", " + what + ")", x.thing(i, what), thing[i][what]);
      x.stow(0);
      due("thing(0, 4), IN", x.thing(0, 4), 1);
      x.days(1);
      due("thing(1, 4), LOST", x.thing(1, 4), 2);
      due("thing(0, 4), still IN", x.thing(0, 4), 1);
    });
    sentence(8, "BAD.", () -> {
      ArkTerrace x = told(CROWD);
      for (int i : beyond(0, 7)) due("thing(" + i + ", 0)", x.thing(i, 0), BAD);
      for (int what : beyond(0, 6)) due("thing(0, " + what + ")", x.thing(0, what), BAD);
      x = told("house 1 1 1;plain 0 1 1;");
      due("thing(1, 0) of one", x.thing(1, 0), BAD);
    });
    sentence(9, "RISE of a day of the week.", () -> {
      ArkTerrace x = told("rise 0 8;rise 6 0;");
      for (int d = 0; d < 7; d++) due("rise(" + d + ")", x.rise(d), d == 0 ? 8 : d == 6 ? 0 : 4);
    });
    sentence(9, "BAD.", () -> {
      ArkTerrace x = told("");
      for (int d : beyond(0, 6)) due("rise(" + d + ")", x.rise(d), BAD);
    });
  }

  // ---- what is changed

  private static void whatIsBuilt() {
    sentence(10, "HEIGHT, ROOM, LEAK, PLACE (what 0 to 3) of a HOUSE becomes v (whatever is IN its ARK): what it was.", () -> {
      ArkTerrace x = told("house 9 9 1;house 9 9 1;plain 1 9 1;");
      x.stow(0);
      int[] was = {9, 9, 1, 50};
      int[] most = {20, 40, 3, 99};
      for (int what = 0; what < 4; what++) {
        due("build(1, " + what + ", " + most[what] + ")", x.build(1, what, most[what]), was[what]);
        due("house(1, " + what + ")", x.house(1, what), most[what]);
        due("build(1, " + what + ", 0)", x.build(1, what, 0), most[what]);
        due("house(1, " + what + ")", x.house(1, what), 0);
        due("house(0, " + what + ") stays", x.house(0, what), was[what]);
      }
      due("it is still IN", x.rule(7), 1);
      due("what is IN FILLS", x.house(1, 4), 9);
      due("it is LOST by a DAY alone", x.rule(8), 0);
      x.tide(0, 5);
      due("days(1)", x.days(1), 1);
      due("build(1, 0, 20), AFLOAT", x.build(1, 0, 20), 0);
      due("rule(6) until a DAY", x.rule(6), 2);
    });
    sentence(10, "BAD.", () -> {
      ArkTerrace x = told("house 9 9 1;house 9 9 1;");
      int[] most = {20, 40, 3, 99};
      for (int h : beyond(0, 1)) due("build(" + h + ", 0, 1)", x.build(h, 0, 1), BAD);
      for (int what : beyond(0, 3)) due("build(0, " + what + ", 1)", x.build(0, what, 1), BAD);
      for (int what = 0; what < 4; what++)
        for (int v : beyond(0, most[what])) due("build(0, " + what + ", " + v + ")", x.build(0, what, v), BAD);
    });
    sentence(11, "KIND, SIZE, WORTH (what 0 to 2) of a THING becomes v: what it was.", () -> {
      ArkTerrace x = told("house 0 9 0;piano 0 4 5;piano 0 4 5;rise 0 5;");
      int[] was = {1, 4, 5};
      int[] least = {0, 1, 0};
      int[] most = {3, 9, 9};
      int[] asked = {0, 2, 3};
      for (int what = 0; what < 3; what++) {
        due("alter(1, " + what + ", least)", x.alter(1, what, least[what]), was[what]);
        due("thing(1, " + asked[what] + ")", x.thing(1, asked[what]), least[what]);
        due("alter(1, " + what + ", most)", x.alter(1, what, most[what]), least[what]);
        due("thing(1, " + asked[what] + ")", x.thing(1, asked[what]), most[what]);
        due("thing(0, " + asked[what] + ") stays", x.thing(0, asked[what]), was[what]);
      }
      x.days(1);
      due("SORROW", x.rule(4), 5 + 28);
      due("alter(1, 2, 0) of what is LOST", x.alter(1, 2, 0), 9);
      due("SORROW stays", x.rule(4), 33);
    });
    sentence(11, "BAD.", () -> {
      ArkTerrace x = told("house 0 9 0;piano 0 4 5;piano 0 4 5;");
      int[] least = {0, 1, 0};
      int[] most = {3, 9, 9};
      for (int i : beyond(0, 1)) due("alter(" + i + ", 0, 1)", x.alter(i, 0, 1), BAD);
      for (int what : beyond(0, 2)) due("alter(0, " + what + ", 1)", x.alter(0, what, 1), BAD);
      for (int what = 0; what < 3; what++)
        for (int v : beyond(least[what], most[what])) due("alter(0, " + what + ", " + v + ")", x.alter(0, what, v), BAD);
    });
    sentence(12, "RISE of a day of the week becomes v: what it was.", () -> {
      ArkTerrace x = told("rise 3 1;");
      for (int d = 0; d < 7; d++) {
        due("tide(" + d + ", 0)", x.tide(d, 0), d == 3 ? 1 : 4);
        due("rise(" + d + ")", x.rise(d), 0);
        due("tide(" + d + ", 8)", x.tide(d, 8), 0);
        due("rise(" + d + ")", x.rise(d), 8);
      }
    });
    sentence(12, "BAD.", () -> {
      ArkTerrace x = told("");
      for (int d : beyond(0, 6)) due("tide(" + d + ", 1)", x.tide(d, 1), BAD);
      for (int v : beyond(0, 8)) due("tide(0, " + v + ")", x.tide(0, v), BAD);
    });
    sentence(13, "WIND becomes v: what it was.", () -> {
      ArkTerrace x = told("");
      due("blow(0)", x.blow(0), 4);
      due("blow(8)", x.blow(8), 0);
      due("rule(5)", x.rule(5), 8);
    });
    sentence(13, "BAD.", () -> {
      ArkTerrace x = told("");
      for (int v : beyond(0, 8)) due("blow(" + v + ")", x.blow(v), BAD);
      due("rule(5)", x.rule(5), 4);
    });
  }

  private static void stowing() {
    sentence(14, "A THING that is OUT is put IN: what its ARK has of ROOM then that nothing FILLS.", () -> {
      ArkTerrace x = told("house 9 9 0;house 9 1 0;plain 0 4 1;piano 0 2 1;father 1 1 1;plain 0 1 1;");
      due("stow(0)", x.stow(0), 5);
      due("stow(1)", x.stow(1), 1);
      due("stow(2), the whole of it", x.stow(2), 0);
      due("stow(3), the last of it", x.stow(3), 0);
      due("rule(7)", x.rule(7), 15);
    });
    sentence(14, "BAD;", () -> {
      ArkTerrace x = told("house 9 9 0;plain 0 1 1;plain 0 1 1;");
      for (int i : beyond(0, 1)) due("stow(" + i + ")", x.stow(i), BAD);
    });
    sentence(14, "STATE: it is not OUT, the ARK is AFLOAT", () -> {
      ArkTerrace x = told("house 3 9 0;plain 0 1 1;plain 0 1 1;rise 0 8;rise 1 0;");
      x.stow(0);
      due("stow(0), IN", x.stow(0), STATE);
      x.days(1);
      due("stow(0), IN, AFLOAT", x.stow(0), STATE);
      due("stow(1), LOST, AFLOAT", x.stow(1), STATE);
      x.days(1);
      due("stow(1), LOST", x.stow(1), STATE);
      due("fetch(0), not AFLOAT", x.fetch(0), 9);
      due("stow(0), OUT, not AFLOAT", x.stow(0), 8);
    });
    sentence(14, "FULL: it would FILL more than ROOM.", () -> {
      ArkTerrace x = told("house 9 9 0;house 9 0 0;plain 0 8 1;plain 0 2 1;father 0 2 1;self 0 1 1;plain 1 1 1;");
      due("stow(4), no ROOM", x.stow(4), FULL);
      due("stow(0)", x.stow(0), 1);
      due("stow(1)", x.stow(1), FULL);
      due("stow(3)", x.stow(3), FULL);
      due("stow(2)", x.stow(2), 0);
      due("rule(7)", x.rule(7), 5);
      x.build(0, 1, 3);
      due("stow(1), more IN than ROOM", x.stow(1), FULL);
    });
    sentence(15, "A THING that is IN is taken OUT: what its ARK has of ROOM then that nothing FILLS (0 at least).", () -> {
      ArkTerrace x = told("house 9 9 0;plain 0 4 1;plain 0 5 1;");
      x.stow(0);
      x.stow(1);
      due("fetch(0)", x.fetch(0), 4);
      due("rule(7)", x.rule(7), 2);
      x.stow(0);
      x.build(0, 1, 4);
      due("fetch(0), 5 IN of 4", x.fetch(0), 0);
      x.build(0, 1, 9);
      x.stow(0);
      x.build(0, 1, 5);
      due("fetch(0), 5 IN of 5", x.fetch(0), 0);
      due("fetch(1)", x.fetch(1), 5);
    });
    sentence(15, "BAD;", () -> {
      ArkTerrace x = told("house 9 9 0;plain 0 1 1;plain 0 1 1;");
      for (int i : beyond(0, 1)) due("fetch(" + i + ")", x.fetch(i), BAD);
    });
    sentence(15, "STATE: it is not IN, the ARK is AFLOAT.", () -> {
      ArkTerrace x = told("house 3 9 0;plain 0 1 1;plain 0 1 1;rise 0 8;rise 1 0;");
      due("fetch(0), OUT", x.fetch(0), STATE);
      x.stow(0);
      x.days(1);
      due("fetch(0), AFLOAT", x.fetch(0), STATE);
      due("fetch(1), LOST", x.fetch(1), STATE);
      x.days(1);
      due("fetch(1), LOST, not AFLOAT", x.fetch(1), STATE);
      due("fetch(0), not AFLOAT", x.fetch(0), 9);
    });
  }

  // ---- days

  private static void days() {
    sentence(16, "n DAYS (0 to 30): by how much SORROW is more.", () -> {
      ArkTerrace x = told("house 0 9 0;house 4 9 0;plain 0 1 2;plain 1 1 3;rise 0 5;");
      due("days(0)", x.days(0), 0);
      due("DAY", x.rule(2), 0);
      due("days(1)", x.days(1), 2);
      due("days(28), the fifth rise is on DAY 28", x.days(28), 3);
      due("days(30)", x.days(30), 0);
      due("DAY", x.rule(2), 59);
      due("SORROW", x.rule(4), 5);
      x = told("house 4 9 0;plain 0 1 3;rise 1 5;");
      due("days(30), the fifth rise is the last of them", x.days(30), 3);
    });
    sentence(16, "BAD;", () -> {
      ArkTerrace x = told("");
      for (int n : beyond(0, 30)) due("days(" + n + ")", x.days(n), BAD);
      due("DAY", x.rule(2), 0);
    });
    sentence(16, "FULL: DAY would be 1000 or more.", () -> {
      ArkTerrace x = told("");
      for (int k = 0; k < 33; k++) x.days(30);
      due("days(30) on DAY 990", x.days(30), FULL);
      due("days(10) on DAY 990", x.days(10), FULL);
      due("DAY", x.rule(2), 990);
      due("days(9) on DAY 990", x.days(9), 0);
      due("DAY", x.rule(2), 999);
      due("days(1) on DAY 999", x.days(1), FULL);
      due("days(0) on DAY 999", x.days(0), 0);
      due("DAY", x.rule(2), 999);
    });
  }

  private static void byDays() {
    sentence(17, "BY DAYS, n of them (0 to 60): by how much SORROW is more then (what 0)", () -> {
      ArkTerrace x = told(LATE);
      due("runs(0, 0)", x.runs(0, 0), 0);
      due("runs(59, 0)", x.runs(59, 0), 0);
      due("runs(60, 0)", x.runs(60, 0), 1);
      x.days(1);
      due("runs(59, 0) from DAY 1", x.runs(59, 0), 1);
      due("DAY", x.rule(2), 1);
      x = told("house 0 9 0;plain 0 1 7;rise 0 8;");
      x.days(1);
      due("runs(60, 0) of SORROW 7", x.runs(60, 0), 0);
    });
    sentence(17, "which THINGS are LOST then (1; bits)", () -> {
      ArkTerrace x = told(CROWD);
      due("runs(0, 1)", x.runs(0, 1), 0);
      due("runs(1, 1)", x.runs(1, 1), 255);
      x.days(1);
      due("runs(0, 1) when all are", x.runs(0, 1), 255);
    });
    sentence(17, "which ARKS are AFLOAT then (2; bits)", () -> {
      ArkTerrace x = told(CROWD);
      x.tide(1, 3);
      x.tide(2, 0);
      due("runs(0, 2)", x.runs(0, 2), 0);
      due("runs(1, 2)", x.runs(1, 2), 15);
      due("runs(2, 2)", x.runs(2, 2), 7);
      due("runs(3, 2)", x.runs(3, 2), 0);
    });
    sentence(17, "the greatest LEVEL behind any of them, now too (3).", () -> {
      ArkTerrace x = told("level 7;rise 0 0;rise 1 8;rise 2 5;rise 3 3;rise 4 0;");
      int[] most = {7, 7, 7, 8, 8, 8, 8, 8};
      for (int n = 0; n < 8; n++) due("runs(" + n + ", 3)", x.runs(n, 3), most[n]);
      x = told("level 20;rise 0 0;rise 1 8;rise 2 8;");
      due("runs(60, 3)", x.runs(60, 3), 20);
      due("runs(60, 3) on the last of them", told(LATE).runs(60, 3), 9);
      due("runs(59, 3)", told(LATE).runs(59, 3), 8);
    });
    sentence(17, "BAD.", () -> {
      ArkTerrace x = told(LATE);
      for (int n : beyond(0, 60)) due("runs(" + n + ", 0)", x.runs(n, 0), BAD);
      for (int what : beyond(0, 3)) due("runs(0, " + what + ")", x.runs(0, what), BAD);
    });
    sentence(18, "BY DAYS, n of them (0 to 60): PLACE of an ARK then (what 0), its ROOM (1).", () -> {
      ArkTerrace x = told(LATE);
      x.build(0, 2, 2);
      due("ahead(0, 0, 0)", x.ahead(0, 0, 0), 50);
      due("ahead(0, 0, 1)", x.ahead(0, 0, 1), 3);
      due("ahead(0, 59, 0)", x.ahead(0, 59, 0), 50);
      due("ahead(0, 59, 1)", x.ahead(0, 59, 1), 3);
      due("ahead(0, 60, 0)", x.ahead(0, 60, 0), 52);
      due("ahead(0, 60, 1)", x.ahead(0, 60, 1), 1);
      x = told("house 0 40 3;level 1;wind 8;");
      due("ahead(0, 60, 0): 99 at most", x.ahead(0, 60, 0), 99);
      due("ahead(0, 60, 1): 0 at least", x.ahead(0, 60, 1), 0);
      x.blow(0);
      due("ahead(0, 60, 0): 0 at least", x.ahead(0, 60, 0), 0);
      due("house(0, 3)", x.house(0, 3), 50);
    });
    sentence(18, "BAD.", () -> {
      ArkTerrace x = told(LATE);
      for (int h : beyond(0, 1)) due("ahead(" + h + ", 0, 0)", x.ahead(h, 0, 0), BAD);
      for (int n : beyond(0, 60)) due("ahead(0, " + n + ", 0)", x.ahead(0, n, 0), BAD);
      for (int what : beyond(0, 1)) due("ahead(0, 0, " + what + ")", x.ahead(0, 0, what), BAD);
    });
  }

  private static void lostAndMet() {
    sentence(19, "BY DAYS: behind how many (0 to 60) a THING is LOST first.", () -> {
      ArkTerrace x = told(LATE);
      due("lost(0)", x.lost(0), 60);
      x.days(30);
      due("lost(0) from DAY 30", x.lost(0), 30);
      x.days(29);
      due("lost(0) from DAY 59", x.lost(0), 1);
      x.days(1);
      due("lost(0), LOST", x.lost(0), 0);
      x.days(20);
      due("lost(0), LOST long ago", x.lost(0), 0);
    });
    sentence(19, "BAD;", () -> {
      ArkTerrace x = told(LATE);
      for (int i : beyond(0, 1)) due("lost(" + i + ")", x.lost(i), BAD);
    });
    sentence(19, "NONE: behind none.", () -> {
      ArkTerrace x = told(LATE);
      due("lost(1)", x.lost(1), NONE);
      x = told("house 8 3 0;plain 0 3 1;rise 4 5;");
      due("lost(0), LOST behind 61", x.lost(0), NONE);
      x.days(1);
      due("lost(0) from DAY 1", x.lost(0), 60);
    });
    sentence(20, "BY DAYS: behind how many (0 to 60) two ARKS, both AFLOAT, are AT one PLACE first.", () -> {
      ArkTerrace x = told("house 8 0 0;house 8 0 0;rise 3 5;");
      due("meet(0, 1), AT one PLACE, not AFLOAT until then", x.meet(0, 1), 60);
      due("meet(1, 0)", x.meet(1, 0), 60);
      x.days(30);
      x.days(30);
      due("meet(0, 1) now", x.meet(0, 1), 0);
      x = told("house 0 9 0;house 2 9 0;rise 0 5;rise 1 6;wind 5;");
      x.build(1, 3, 51);
      due("meet(0, 1), of which one is AFLOAT a DAY before", x.meet(0, 1), 2);
      x.build(1, 3, 60);
      due("meet(0, 1), both at the last PLACE", x.meet(0, 1), 49);
    });
    sentence(20, "BAD (also alike)", () -> {
      ArkTerrace x = told("level 9;house 0 0 0;house 0 0 0;");
      x.days(1);
      due("meet(0, 0)", x.meet(0, 0), BAD);
      due("meet(1, 1)", x.meet(1, 1), BAD);
      for (int h : beyond(0, 1)) {
        due("meet(" + h + ", 0)", x.meet(h, 0), BAD);
        due("meet(0, " + h + ")", x.meet(0, h), BAD);
        due("meet(" + h + ", " + h + ")", x.meet(h, h), BAD);
      }
    });
    sentence(20, "NONE: behind none.", () -> {
      ArkTerrace x = told("house 8 0 0;house 8 0 0;rise 4 5;");
      due("meet(0, 1), AFLOAT behind 61", x.meet(0, 1), NONE);
      x = told("house 0 9 0;house 20 9 0;level 9;");
      due("meet(0, 1), of which one never floats", x.meet(0, 1), NONE);
      due("meet(1, 0), of which one never floats", x.meet(1, 0), NONE);
      x = told("house 0 9 0;house 0 9 0;level 9;");
      x.build(0, 3, 49);
      due("meet(0, 1), AT two PLACES", x.meet(0, 1), NONE);
      x.build(0, 3, 50);
      due("meet(0, 1)", x.meet(0, 1), 1);
    });
  }

  // ---- what is best

  private static void packing() {
    sentence(21, "Of THINGS of a HOUSE that are not LOST", () -> {
      ArkTerrace x = told(CROWD);
      due("pack(0, 0), all", x.pack(0, 0), 255);
      due("pack(0, 1), all", x.pack(0, 1), 72);
      due("pack(0, 2), all", x.pack(0, 2), 8);
      for (int what = 0; what < 3; what++) due("pack(1, " + what + ") of no THINGS", x.pack(1, what), 0);
      x.stow(3);
      due("pack(0, 0), IN or OUT", x.pack(0, 0), 255);
      x.days(1);
      due("pack(0, 0), one is not LOST", x.pack(0, 0), 8);
      due("pack(0, 1), one is not LOST", x.pack(0, 1), 9);
    });
    sentence(21, "those that together FILL no more than ROOM, and COST most", () -> {
      ArkTerrace x = told("house 1 9 0;plain 0 4 5;plain 0 5 5;plain 0 9 9;");
      due("pack(0, 0), 9 of 9", x.pack(0, 0), 3);
      due("pack(0, 1)", x.pack(0, 1), 10);
      due("pack(0, 2)", x.pack(0, 2), 9);
      x.build(0, 1, 8);
      due("pack(0, 0) of ROOM 8", x.pack(0, 0), 1);
      x.build(0, 1, 0);
      for (int what = 0; what < 3; what++) due("pack(0, " + what + ") of no ROOM", x.pack(0, what), 0);
      x = told("house 1 40 0;piano 0 9 1;piano 0 9 1;piano 0 2 1;");
      due("pack(0, 0), 40 of 40", x.pack(0, 0), 7);
      due("pack(0, 2)", x.pack(0, 2), 40);
      x.alter(2, 1, 3);
      due("pack(0, 0), 42 of 40", x.pack(0, 0), 3);
    });
    sentence(21, "which (what 0; bits, of several the least such number)", () -> {
      ArkTerrace x = told("house 1 5 0;plain 0 5 9;plain 0 3 5;plain 0 2 4;");
      due("pack(0, 0), 1 or 6", x.pack(0, 0), 1);
      due("pack(0, 2), 1 or 6", x.pack(0, 2), 5);
      x = told("house 1 5 0;plain 0 2 5;plain 0 2 4;plain 0 5 9;");
      due("pack(0, 0), 3 or 4", x.pack(0, 0), 3);
      due("pack(0, 2), 3 or 4", x.pack(0, 2), 4);
      x = told("house 1 5 0;plain 0 1 0;plain 0 1 0;");
      due("pack(0, 0), all of which COST nothing", x.pack(0, 0), 0);
      due("pack(0, 2)", x.pack(0, 2), 0);
    });
    sentence(21, "BAD.", () -> {
      ArkTerrace x = told(CROWD);
      for (int h : beyond(0, 3)) due("pack(" + h + ", 0)", x.pack(h, 0), BAD);
      for (int what : beyond(0, 2)) due("pack(0, " + what + ")", x.pack(0, what), BAD);
    });
  }

  private static void whatIsNeeded() {
    sentence(22, "The least ROOM (0 to 40) of a HOUSE, its THINGS that are not LOST all IN now, by which none of them is LOST in n DAYS (0 to 60).", () -> {
      ArkTerrace x = told(LATE);
      due("need(0, 0)", x.need(0, 0), 0);
      due("need(0, 59)", x.need(0, 59), 0);
      due("need(0, 60)", x.need(0, 60), 3);
      due("need(1, 60), which never floats", x.need(1, 60), 0);
      due("what is IN stays", x.rule(7), 0);
      due("ROOM stays", x.house(0, 1), 3);
      x = told("house 0 0 0;piano 0 9 1;piano 0 9 1;plain 0 4 1;plain 0 9 1;rise 0 8;");
      due("need(0, 1), 49 IN", x.need(0, 1), NONE);
      x.build(0, 1, 40);
      x.stow(0);
      x.stow(1);
      x.stow(2);
      x.days(1);
      due("need(0, 60), 40 IN, one LOST", x.need(0, 60), 40);
      x = told("house 0 9 0;rise 0 8;");
      due("need(0, 60) of no THINGS", x.need(0, 60), 0);
    });
    sentence(22, "BAD;", () -> {
      ArkTerrace x = told(LATE);
      for (int h : beyond(0, 1)) due("need(" + h + ", 0)", x.need(h, 0), BAD);
      for (int n : beyond(0, 60)) due("need(0, " + n + ")", x.need(0, n), BAD);
    });
    sentence(22, "NONE: by none.", () -> {
      ArkTerrace x = told("house 0 9 0;piano 0 9 1;piano 0 9 1;plain 0 5 1;rise 0 8;");
      due("need(0, 1), 41 IN", x.need(0, 1), NONE);
      due("need(0, 0), 41 IN", x.need(0, 0), 0);
      x.alter(2, 1, 4);
      due("need(0, 1), 40 IN", x.need(0, 1), 40);
      x.build(0, 2, 1);
      due("need(0, 1), 40 IN, a LEAK", x.need(0, 1), NONE);
    });
    sentence(23, "The least HEIGHT (0 to 20) of a HOUSE by which none of its THINGS becomes LOST in n DAYS (0 to 60).", () -> {
      ArkTerrace x = told(LATE);
      due("high(0, 0)", x.high(0, 0), 0);
      due("high(0, 3)", x.high(0, 3), 0);
      due("high(0, 4)", x.high(0, 4), 1);
      due("high(0, 59)", x.high(0, 59), 8);
      due("high(0, 60)", x.high(0, 60), 9);
      due("HEIGHT stays", x.house(0, 0), 8);
      x.stow(0);
      due("high(0, 60) of what is IN", x.high(0, 60), 0);
      x = told("house 0 9 0;plain 0 1 1;level 20;");
      due("high(0, 1) by LEVEL 20", x.high(0, 1), 20);
      x.days(1);
      due("high(0, 60) of what is LOST already", x.high(0, 60), 0);
      due("high(0, 60) of no THINGS", told("house 9 9 0;level 20;").high(0, 60), 0);
    });
    // By HEIGHT 20 nothing floats, so there is always one: NONE is never answered.
    sentence(23, "BAD; NONE: by none.", () -> {
      ArkTerrace x = told(LATE);
      for (int h : beyond(0, 1)) due("high(" + h + ", 0)", x.high(h, 0), BAD);
      for (int n : beyond(0, 60)) due("high(0, " + n + ")", x.high(0, n), BAD);
      x = told("house 0 0 3;plain 0 9 9;level 20;rise 0 8;rise 1 8;");
      due("high(0, 60) by the greatest LEVEL", x.high(0, 60), 20);
    });
    sentence(24, "The greatest LEAK (0 to 3) of a HOUSE by which SORROW is no more behind n DAYS (0 to 60) than it would be behind them with nothing changed.", () -> {
      ArkTerrace x = told(LATE);
      due("leak(1, 60), which never floats", x.leak(1, 60), 3);
      due("leak(0, 60), OUT all the same", x.leak(0, 60), 3);
      x.stow(0);
      due("leak(0, 0)", x.leak(0, 0), 3);
      due("leak(0, 59)", x.leak(0, 59), 3);
      due("leak(0, 60)", x.leak(0, 60), 0);
      x.build(0, 1, 4);
      due("leak(0, 60) of ROOM 4", x.leak(0, 60), 1);
      x.build(0, 2, 3);
      due("leak(0, 60), LOST with nothing changed", x.leak(0, 60), 3);
      x.build(0, 1, 5);
      x.build(0, 2, 0);
      due("leak(0, 60) of ROOM 5", x.leak(0, 60), 2);
      due("LEAK stays", x.house(0, 2), 0);
    });
    sentence(24, "BAD.", () -> {
      ArkTerrace x = told(LATE);
      for (int h : beyond(0, 1)) due("leak(" + h + ", 0)", x.leak(h, 0), BAD);
      for (int n : beyond(0, 60)) due("leak(0, " + n + ")", x.leak(0, n), BAD);
    });
  }

  private static void swapping() {
    sentence(25, "Two THINGS that are not LOST, of two HOUSES, that are to change HOUSES (each stays OUT, or IN)", () -> {
      ArkTerrace x = told("house 0 9 3;house 9 9 0;plain 0 9 9;plain 1 1 7;rise 0 8;rise 1 8;rise 2 8;");
      x.days(1);
      due("runs(2, 0), 1 will be LOST", x.runs(2, 0), 7);
      due("swap(2, 0) with one that is LOST", x.swap(2, 0), NONE);
      x = told("house 9 9 0;house 0 9 3;plain 0 1 7;plain 1 9 9;rise 0 8;rise 1 8;rise 2 8;");
      x.days(1);
      due("swap(2, 0), the LOST one behind", x.swap(2, 0), NONE);
      due("swap(1, 0) of one HOUSE", told("house 0 1 0;plain 0 1 9;plain 0 1 1;rise 0 8;").swap(1, 0), NONE);
      x = told("house 0 2 0;house 20 9 0;piano 0 1 9;plain 1 2 0;plain 1 2 0;plain 0 1 8;rise 0 8;");
      x.stow(0);
      x.stow(2);
      due("swap(1, 0), both OUT", x.swap(1, 0), 13);
      due("swap(1, 1)", x.swap(1, 1), 0);
      x.alter(2, 2, 1);
      x.alter(1, 2, 9);
      due("swap(1, 0), 3 OUT and 2 IN", x.swap(1, 0), 23);
      due("the HOUSES stay", x.house(0, 5), 9);
      due("what is IN stays", x.rule(7), 5);
    });
    sentence(25, "so that SORROW is least behind n DAYS (0 to 60), less than it would be behind them with nothing changed", () -> {
      ArkTerrace x = told(LATE);
      due("swap(0, 0)", x.swap(0, 0), NONE);
      due("swap(59, 0)", x.swap(59, 0), NONE);
      due("swap(60, 0)", x.swap(60, 0), 1);
      due("swap(60, 1)", x.swap(60, 1), 0);
      x.alter(1, 2, 1);
      due("swap(60, 0), as much", x.swap(60, 0), NONE);
      due("swap(60, 1), as much", x.swap(60, 1), NONE);
      x = told("house 0 9 0;house 20 9 0;plain 0 1 8;plain 0 1 9;plain 1 1 1;plain 1 1 0;rise 0 8;");
      due("swap(1, 0), the least of four", x.swap(1, 0), 13);
      due("swap(1, 1)", x.swap(1, 1), 8);
    });
    sentence(25, "10 times the lesser and the greater, of several the least (what 0)", () -> {
      ArkTerrace x = told("house 0 9 0;house 20 9 0;" + "plain 0 1 0;".repeat(6) + "plain 0 1 9;plain 1 1 0;rise 0 8;");
      due("swap(1, 0), the last two", x.swap(1, 0), 67);
      x = told("house 0 9 0;house 20 9 0;plain 1 1 0;plain 0 1 5;plain 0 1 5;plain 1 1 0;rise 0 8;");
      due("swap(1, 0), 1, 2, 13 or 23", x.swap(1, 0), 1);
      x.alter(0, 2, 5);
      due("swap(1, 0), 13 or 23", x.swap(1, 0), 13);
    });
    sentence(25, "by how much SORROW is more then than now (1)", () -> {
      ArkTerrace x = told("house 0 9 0;house 5 9 0;house 20 9 0;plain 0 1 7;plain 1 1 9;plain 2 1 4;rise 0 8;rise 1 8;");
      x.days(1);
      due("SORROW now", x.rule(4), 7);
      due("swap(1, 1)", x.swap(1, 1), 4);
      due("swap(1, 0)", x.swap(1, 0), 12);
    });
    sentence(25, "BAD; NONE: by none.", () -> {
      ArkTerrace x = told(LATE);
      for (int n : beyond(0, 60)) due("swap(" + n + ", 0)", x.swap(n, 0), BAD);
      for (int what : beyond(0, 1)) due("swap(60, " + what + ")", x.swap(60, what), BAD);
      x = told("");
      due("swap(60, 0) of no THINGS", x.swap(60, 0), NONE);
      due("swap(60, 1) of no THINGS", x.swap(60, 1), NONE);
    });
  }

  private static void saving() {
    sentence(26, "The THING that is OUT, to be put IN now if it can be (as stow() would)", () -> {
      ArkTerrace x = told("house 0 4 0;house 1 4 0;plain 0 5 9;plain 0 4 5;plain 1 1 1;rise 0 8;");
      due("save(1, 0), 0 is too big", x.save(1, 0), 1);
      x.stow(1);
      due("save(1, 0), 1 is IN", x.save(1, 0), 2);
      x.stow(2);
      due("save(1, 0), none can be", x.save(1, 0), NONE);
      due("what is IN stays", x.rule(7), 6);
      x.days(1);
      due("save(1, 0), 0 is LOST", x.save(1, 0), NONE);
    });
    sentence(26, "so that SORROW is least behind n DAYS (0 to 60), less than it would be behind them with nothing changed, of several the first (what 0)", () -> {
      ArkTerrace x = told(LATE);
      due("save(0, 0)", x.save(0, 0), NONE);
      due("save(59, 0)", x.save(59, 0), NONE);
      due("save(60, 0)", x.save(60, 0), 0);
      x.alter(0, 2, 0);
      due("save(60, 0), as much", x.save(60, 0), NONE);
      x = told("house 0 9 0;" + "plain 0 1 4;".repeat(6) + "plain 0 1 5;plain 0 1 5;rise 0 8;");
      due("save(1, 0), 6 or 7", x.save(1, 0), 6);
      x.alter(7, 2, 6);
      due("save(1, 0), the last", x.save(1, 0), 7);
      x = told("house 0 4 1;plain 0 4 9;rise 0 8;");
      due("save(1, 0), LOST all the same", x.save(1, 0), NONE);
    });
    sentence(26, "by how much it is more then than now (1)", () -> {
      ArkTerrace x = told("house 0 9 0;house 5 9 0;plain 0 1 7;plain 1 1 9;plain 1 1 4;rise 0 8;rise 1 8;");
      due("save(1, 1)", x.save(1, 1), 0);
      x.days(1);
      due("SORROW now", x.rule(4), 7);
      due("save(1, 1)", x.save(1, 1), 4);
      due("save(1, 0)", x.save(1, 0), 1);
    });
    sentence(26, "BAD; NONE: none.", () -> {
      ArkTerrace x = told(LATE);
      for (int n : beyond(0, 60)) due("save(" + n + ", 0)", x.save(n, 0), BAD);
      for (int what : beyond(0, 1)) due("save(60, " + what + ")", x.save(60, what), BAD);
      due("save(59, 1)", x.save(59, 1), NONE);
      x = told("");
      due("save(60, 0) of no THINGS", x.save(60, 0), NONE);
      due("save(60, 1) of no THINGS", x.save(60, 1), NONE);
    });
  }

  private static void theBestKind() {
    sentence(27, "The KIND of a THING by which SORROW is least behind n DAYS (0 to 60), of several the first (what 0)", () -> {
      ArkTerrace x = told(LATE);
      x.alter(0, 0, 3);
      due("kind(0, 0, 0), all alike", x.kind(0, 0, 0), 0);
      due("kind(0, 60, 0), plain or piano", x.kind(0, 60, 0), 0);
      x.stow(0);
      x.build(0, 1, 2);
      due("kind(0, 59, 0), all alike", x.kind(0, 59, 0), 0);
      due("kind(0, 60, 0), a father has ROOM", x.kind(0, 60, 0), 2);
      x.build(0, 1, 3);
      due("kind(0, 60, 0), a plain one has ROOM, too", x.kind(0, 60, 0), 0);
      due("KIND stays", x.thing(0, 0), 3);
    });
    sentence(27, "by how much it is more then than now (1)", () -> {
      ArkTerrace x = told(LATE);
      x.alter(0, 0, 3);
      due("kind(0, 59, 1)", x.kind(0, 59, 1), 0);
      due("kind(0, 60, 1)", x.kind(0, 60, 1), 1);
      x = told("house 0 9 0;house 5 9 0;plain 0 1 7;father 1 1 9;rise 0 8;rise 1 8;");
      x.days(1);
      due("kind(1, 1, 1) of SORROW 7", x.kind(1, 1, 1), 9);
      due("kind(0, 1, 1) of what is LOST", x.kind(0, 1, 1), 27);
    });
    sentence(27, "BAD.", () -> {
      ArkTerrace x = told(LATE);
      for (int i : beyond(0, 1)) due("kind(" + i + ", 0, 0)", x.kind(i, 0, 0), BAD);
      for (int n : beyond(0, 60)) due("kind(0, " + n + ", 0)", x.kind(0, n, 0), BAD);
      for (int what : beyond(0, 1)) due("kind(0, 0, " + what + ")", x.kind(0, 0, what), BAD);
    });
  }

  // ---- storms

  private static void storms() {
    sentence(28, "Each of n DAYS (0 to 8) is stormy by v out of ten (0 to 10), by itself", () -> {
      // Two of the DAYS make LEVEL 2 without a storm: the first, and the eighth.
      ArkTerrace x = told("house 1 9 0;plain 0 1 6;rise 0 5;");
      due("luck(0, 0, 7, 0)", x.luck(0, 0, 7, 0), 1);
      due("luck(0, 0, 8, 0)", x.luck(0, 0, 8, 0), 0);
      due("luck(10, 0, 0, 0)", x.luck(10, 0, 0, 0), 1);
      due("luck(10, 0, 1, 0)", x.luck(10, 0, 1, 0), 0);
      x = told("house 3 9 0;plain 0 1 6;");
      // Two storms are LEVEL 4: none or one of three DAYS is 343 and 441 of 1000.
      due("luck(3, 0, 3, 0)", x.luck(3, 0, 3, 0), 98);
      due("luck(3, 0, 3, 1)", x.luck(3, 0, 3, 1), 125);
      // None or one of eight by 1 out of ten is 9^8 and 8 times 9^7 of 10^8.
      due("luck(1, 0, 8, 0)", x.luck(1, 0, 8, 0), 81310473);
      due("luck(1, 0, 8, 1)", x.luck(1, 0, 8, 1), 100000000);
      due("luck(0, 0, 8, 0)", x.luck(0, 0, 8, 0), 1);
      due("luck(10, 0, 1, 0)", x.luck(10, 0, 1, 0), 1);
      due("luck(10, 0, 2, 0)", x.luck(10, 0, 2, 0), 0);
    });
    sentence(28, "(RISE is 2 more in it, whatever its bounds)", () -> {
      ArkTerrace x = told("house 5 9 0;plain 0 1 6;rise 0 8;");
      due("luck(10, 0, 1, 0), RISE 10 of HEIGHT 5", x.luck(10, 0, 1, 0), 0);
      due("luck(0, 0, 1, 0), RISE 8 of HEIGHT 5", x.luck(0, 0, 1, 0), 1);
      x.build(0, 0, 6);
      due("luck(10, 0, 1, 0), RISE 10 of HEIGHT 6", x.luck(10, 0, 1, 0), 1);
      x.tide(0, 7);
      x.build(0, 0, 4);
      due("luck(10, 0, 1, 0), RISE 9 of HEIGHT 4", x.luck(10, 0, 1, 0), 0);
      x = told("house 20 9 0;plain 0 1 6;level 20;rise 0 8;");
      due("luck(10, 0, 8, 0), LEVEL is 20 at most", x.luck(10, 0, 8, 0), 1);
      x = told("house 1 9 0;plain 0 1 6;rise 0 0;");
      due("luck(10, 0, 1, 0), LEVEL is 0 at least", x.luck(10, 0, 1, 0), 1);
      due("luck(10, 0, 2, 0)", x.luck(10, 0, 2, 0), 0);
      due("rise(0) stays", x.rise(0), 0);
    });
    sentence(28, "that a THING is not LOST behind them: 0, 1.", () -> {
      ArkTerrace x = told("house 0 9 0;plain 0 1 6;plain 0 1 6;level 1;");
      x.stow(1);
      x.days(1);
      due("luck(5, 0, 0, 0), LOST now", x.luck(5, 0, 0, 0), 0);
      due("luck(5, 0, 0, 1), LOST now", x.luck(5, 0, 0, 1), 1);
      due("luck(5, 1, 8, 0), never LOST", x.luck(5, 1, 8, 0), 1);
      due("luck(5, 1, 8, 1), never LOST", x.luck(5, 1, 8, 1), 1);
    });
    sentence(28, "BAD.", () -> {
      ArkTerrace x = told(LATE);
      for (int v : beyond(0, 10)) due("luck(" + v + ", 0, 1, 0)", x.luck(v, 0, 1, 0), BAD);
      for (int i : beyond(0, 1)) due("luck(1, " + i + ", 1, 0)", x.luck(1, i, 1, 0), BAD);
      for (int n : beyond(0, 8)) due("luck(1, 0, " + n + ", 0)", x.luck(1, 0, n, 0), BAD);
      for (int what : beyond(0, 1)) due("luck(1, 0, 1, " + what + ")", x.luck(1, 0, 1, what), BAD);
    });
    sentence(29, "Likewise, the mean of by how much SORROW is more: 0, 1.", () -> {
      ArkTerrace x = told("house 1 9 0;house 20 9 0;plain 0 1 6;plain 1 1 1;rise 0 5;");
      due("mean(0, 0, 0)", x.mean(0, 0, 0), 0);
      due("mean(0, 0, 1)", x.mean(0, 0, 1), 1);
      due("mean(0, 7, 0)", x.mean(0, 7, 0), 0);
      due("mean(0, 8, 0)", x.mean(0, 8, 0), 6);
      due("mean(10, 1, 0)", x.mean(10, 1, 0), 6);
      due("mean(10, 1, 1)", x.mean(10, 1, 1), 1);
      due("mean(10, 0, 0)", x.mean(10, 0, 0), 0);
      due("mean(1, 1, 0), 6 by 10", x.mean(1, 1, 0), 3);
      due("mean(1, 1, 1), 6 by 10", x.mean(1, 1, 1), 5);
      // Of the first seven DAYS none is stormy by 9^7 of 10^7; the eighth makes LEVEL 2 all the same.
      due("mean(1, 7, 0)", x.mean(1, 7, 0), 3L * (10000000 - 4782969));
      due("mean(1, 7, 1)", x.mean(1, 7, 1), 5000000);
      due("mean(1, 8, 0)", x.mean(1, 8, 0), 6);
      x.days(8);
      due("SORROW", x.rule(4), 6);
      due("mean(10, 8, 0) of SORROW 6", x.mean(10, 8, 0), 0);
      due("mean(10, 8, 1) of SORROW 6", x.mean(10, 8, 1), 1);
    });
    sentence(29, "BAD.", () -> {
      ArkTerrace x = told(LATE);
      for (int v : beyond(0, 10)) due("mean(" + v + ", 1, 0)", x.mean(v, 1, 0), BAD);
      for (int n : beyond(0, 8)) due("mean(1, " + n + ", 0)", x.mean(1, n, 0), BAD);
      for (int what : beyond(0, 1)) due("mean(1, 1, " + what + ")", x.mean(1, 1, what), BAD);
    });
  }

  // ---- what it was

  private static void seeing() {
    sentence(30, "SEEN: behind n DAYS (0 to 20) SORROW is v (0 to 999): how many are.", () -> {
      ArkTerrace x = told("house 0 9 0;plain 0 1 2;rise 6 5;");
      due("see(0, 0)", x.see(0, 0), 1);
      due("see(20, 2)", x.see(20, 2), 2);
      due("kinds(0)", x.kinds(0), 3);
      due("see(0, 999)", x.see(0, 999), 3);
      due("kinds(0)", x.kinds(0), 0);
      due("count(0)", x.count(0), 3);
    });
    sentence(30, "BAD;", () -> {
      ArkTerrace x = told("");
      for (int n : beyond(0, 20)) due("see(" + n + ", 0)", x.see(n, 0), BAD);
      for (int v : beyond(0, 999)) due("see(0, " + v + ")", x.see(0, v), BAD);
      due("count(0)", x.count(0), 0);
    });
    sentence(30, "FULL.", () -> {
      ArkTerrace x = told("");
      for (int k = 1; k <= 6; k++) due("see(0, 0)", x.see(0, 0), k);
      due("see(0, 0)", x.see(0, 0), FULL);
      due("count(0)", x.count(0), 6);
      due("forget(5)", x.forget(5), 6);
      due("see(0, 0)", x.see(0, 0), 6);
    });
    sentence(31, "SEEN are the first n alone: how many there were.", () -> {
      ArkTerrace x = told("house 0 9 0;plain 0 1 2;rise 0 5;");
      x.see(1, 2);
      x.see(1, 7);
      due("kinds(0)", x.kinds(0), 0);
      due("forget(2)", x.forget(2), 2);
      due("kinds(0)", x.kinds(0), 0);
      due("forget(1)", x.forget(1), 2);
      due("kinds(0) by the first", x.kinds(0), 3);
      due("forget(0)", x.forget(0), 1);
      due("kinds(0) by none", x.kinds(0), 15);
      due("forget(0)", x.forget(0), 0);
    });
    sentence(31, "BAD (n above that, too).", () -> {
      ArkTerrace x = told("");
      due("forget(1) of none", x.forget(1), BAD);
      x.see(0, 0);
      x.see(0, 0);
      for (int n : beyond(0, 2)) due("forget(" + n + ")", x.forget(n), BAD);
      due("count(0)", x.count(0), 2);
    });
  }

  private static void whatItWas() {
    sentence(32, "KINDS of a THING (bits) by which, all else as it is, all is as SEEN.", () -> {
      ArkTerrace x = told("house 0 9 0;house 0 9 0;plain 0 9 2;self 1 1 1;rise 6 5;");
      x.stow(1);
      due("kinds(0), nothing SEEN", x.kinds(0), 15);
      x.see(20, 6);
      due("kinds(0), a father", x.kinds(0), 4);
      x.see(7, 6);
      due("kinds(0), a father behind 7", x.kinds(0), 4);
      x.see(6, 6);
      due("kinds(0), not behind 6", x.kinds(0), 0);
      x.forget(0);
      x.see(7, 7);
      due("kinds(0), a self", x.kinds(0), 8);
      due("kinds(1), which is not LOST", x.kinds(1), 0);
      due("KIND stays", x.thing(0, 0), 0);
    });
    sentence(32, "BAD.", () -> {
      ArkTerrace x = told(LATE);
      for (int i : beyond(0, 1)) due("kinds(" + i + ")", x.kinds(i), BAD);
    });
    sentence(33, "LEAKS of a HOUSE (bits 0 to 3) by which, all else as it is, all is as SEEN.", () -> {
      ArkTerrace x = told("house 0 9 1;house 0 9 1;plain 0 3 2;level 1;");
      x.stow(0);
      due("leaks(0), nothing SEEN", x.leaks(0), 15);
      x.see(20, 0);
      due("leaks(0), not LOST behind 20", x.leaks(0), 1);
      x.forget(0);
      x.see(3, 2);
      due("leaks(0), LOST behind 3", x.leaks(0), 8);
      x.forget(0);
      x.see(4, 2);
      due("leaks(0), LOST behind 4", x.leaks(0), 12);
      due("leaks(1), LOST behind 7 all the same", x.leaks(1), 0);
      due("LEAK stays", x.house(0, 2), 1);
    });
    sentence(33, "BAD.", () -> {
      ArkTerrace x = told(LATE);
      for (int h : beyond(0, 1)) due("leaks(" + h + ")", x.leaks(h), BAD);
    });
    sentence(34, "ROOMS of a HOUSE (0 to 30; bits) by which, all else as it is, all is as SEEN.", () -> {
      ArkTerrace x = told("house 0 40 0;house 0 9 0;piano 0 9 1;piano 0 6 1;level 1;");
      x.stow(0);
      x.stow(1);
      due("rooms(0), nothing SEEN", x.rooms(0), MAX);
      x.see(1, 0);
      due("rooms(0), 30 IN", x.rooms(0), 1 << 30);
      x.forget(0);
      x.see(20, 1);
      due("rooms(0), 30 IN, one LOST", x.rooms(0), (1 << 30) - (1 << 18));
      x.forget(0);
      x.see(20, 2);
      due("rooms(0), 30 IN, both LOST", x.rooms(0), (1 << 18) - 1);
      due("rooms(1), neither LOST", x.rooms(1), 0);
      due("ROOM stays", x.house(0, 1), 40);
      x.forget(0);
      x.see(1, 0);
      x.alter(1, 1, 7);
      due("rooms(0), 32 IN", x.rooms(0), 0);
      x.fetch(1);
      x.fetch(0);
      x.forget(0);
      x.see(0, 0);
      due("rooms(0), behind no DAYS", x.rooms(0), MAX);
    });
    sentence(34, "BAD.", () -> {
      ArkTerrace x = told(LATE);
      for (int h : beyond(0, 1)) due("rooms(" + h + ")", x.rooms(h), BAD);
    });
  }

  private static void asking() {
    sentence(35, "Behind how many DAYS (0 to 20) to ask how much SORROW there is, so that of rooms() of a HOUSE fewest are left at the worst", () -> {
      ArkTerrace x = told("house 2 10 1;plain 0 4 2;rise 5 5;");
      x.stow(0);
      // It is AFLOAT behind 20 DAYS first: of ROOM 4 and less it is LOST then.
      due("ask(0, 0)", x.ask(0, 0), 20);
      due("ask(0, 1)", x.ask(0, 1), 26);
      x = told("house 0 10 1;plain 0 4 2;plain 0 6 3;rise 0 8;");
      x.stow(0);
      x.stow(1);
      // Behind n: both are LOST of 4 + n ROOMS, one of 6, none of 21 - n.
      due("ask(0, 0)", x.ask(0, 0), 8);
      due("ask(0, 1)", x.ask(0, 1), 13);
    });
    sentence(35, "fewer than now, the first (what 0), how many these are (1).", () -> {
      ArkTerrace x = told("house 0 10 1;plain 0 4 2;rise 0 8;");
      x.stow(0);
      // Behind n DAYS it is LOST of 4 + n ROOMS of 31: 16 are left at the worst behind 11, behind 12.
      due("ask(0, 0)", x.ask(0, 0), 11);
      due("ask(0, 1)", x.ask(0, 1), 16);
      x.see(2, 2);
      due("ask(0, 0), of 0 to 5", x.ask(0, 0), 1);
      due("ask(0, 1), of 0 to 5", x.ask(0, 1), 5);
      x.see(1, 0);
      due("ask(0, 0), of one", x.ask(0, 0), NONE);
      due("ask(0, 1), of one", x.ask(0, 1), NONE);
    });
    sentence(35, "BAD;", () -> {
      ArkTerrace x = told(LATE);
      for (int h : beyond(0, 1)) due("ask(" + h + ", 0)", x.ask(h, 0), BAD);
      for (int what : beyond(0, 1)) due("ask(0, " + what + ")", x.ask(0, what), BAD);
    });
    sentence(35, "NONE: behind none.", () -> {
      ArkTerrace x = told("house 2 10 1;plain 0 4 2;rise 6 5;");
      x.stow(0);
      due("ask(0, 0), AFLOAT behind 21", x.ask(0, 0), NONE);
      due("ask(0, 1), AFLOAT behind 21", x.ask(0, 1), NONE);
      x.days(1);
      due("ask(0, 0) from DAY 1", x.ask(0, 0), 20);
      x.see(0, 9);
      due("ask(0, 0), no ROOMS left", x.ask(0, 0), NONE);
      due("ask(0, 1), no ROOMS left", x.ask(0, 1), NONE);
      due("ask(0, 0) of no THINGS", told("house 0 1 3;level 1;").ask(0, 0), NONE);
    });
  }

  // ---- by a seed

  /** LEVEL behind n DAYS by a seed, from 0 on; the arithmetic without a wrap-around. */
  private static int levelBySeed(long seed, int n) {
    long s = seed;
    int level = 0;
    for (int d = 0; d < n; d++) {
      s = Math.floorMod(Math.floorMod(s, 1L << 32) * 1103515245L + 12345L, 1L << 32);
      level = (int) Math.max(0, Math.min(20, level + s / 65536 % 32768 % 9 - 4));
    }
    return level;
  }

  private static void drifting() {
    sentence(36, "By itself (as it would be; nothing is changed), n DAYS (1 to 60) by a seed", () -> {
      ArkTerrace x = told("house 0 9 1;plain 0 1 5;wind 7;rise 0 6;");
      for (int seed = 0; seed < 100; seed++) {
        due("drift(" + seed + ", 1, 1)", x.drift(seed, 1, 1), levelBySeed(seed, 1) > 0 ? 1 : 0);
        due("drift(" + seed + ", 59, 1)", x.drift(seed, 59, 1), levelBySeed(seed, 59) > 0 ? 1 : 0);
        due("drift(" + seed + ", 60, 1)", x.drift(seed, 60, 1), levelBySeed(seed, 60) > 0 ? 1 : 0);
      }
      int[] rule = {1, 1, 0, 0, 0, 7, 0, 0, 0};
      for (int what = 0; what < 9; what++) due("rule(" + what + ")", x.rule(what), rule[what]);
      due("ROOM", x.house(0, 1), 9);
      due("PLACE", x.house(0, 3), 50);
      due("rise(0)", x.rise(0), 6);
    });
    sentence(36, "ahead of each the seed becomes seed times 1103515245 and 12345; bits 16 to 30 of it are got", () -> {
      ArkTerrace x = told("house 0 9 1;house 3 9 0;house 9 9 0;house 17 9 0;");
      int[] seeds = {0, 1, -1, MAX, MIN, MIN + 1, MAX - 1, 1 << 16, 1 << 30, -12345, 123456789};
      for (int seed : seeds) {
        for (int n = 1; n <= 40; n++) {
          int level = levelBySeed(seed, n);
          int bits = (level > 0 ? 1 : 0) + (level > 3 ? 2 : 0) + (level > 9 ? 4 : 0) + (level > 17 ? 8 : 0);
          due("drift(" + seed + ", " + n + ", 1)", x.drift(seed, n, 1), bits);
        }
      }
    });
    sentence(36, "in that DAY RISE is got modulo 9, WIND is got by 16 (down) modulo 9 (in place of those told): by how much SORROW is more in the end (what 0), which ARKS are AFLOAT then (1; bits).", () -> {
      // Seed 1 becomes 1103527590, of which 16838 is got: RISE is 8. Seed 0 becomes 12345, of which 0 is got: RISE is 0.
      ArkTerrace x = told("house 3 9 0;plain 0 1 5;level 4;rise 0 0;");
      due("drift(1, 1, 0), LEVEL 8", x.drift(1, 1, 0), 5);
      due("drift(1, 1, 1), LEVEL 8", x.drift(1, 1, 1), 1);
      due("drift(0, 1, 0), LEVEL 0", x.drift(0, 1, 0), 0);
      due("drift(0, 1, 1), LEVEL 0", x.drift(0, 1, 1), 0);
      x.tide(0, 4);
      x.days(1);
      due("SORROW", x.rule(4), 5);
      due("drift(1, 1, 0) of SORROW 5", x.drift(1, 1, 0), 0);
      due("drift(1, 1, 1)", x.drift(1, 1, 1), 1);
    });
    sentence(36, "BAD; STATE: there are no HOUSES.", () -> {
      ArkTerrace x = told("wind 7;");
      due("drift(1, 1, 0)", x.drift(1, 1, 0), STATE);
      due("drift(1, 60, 1)", x.drift(1, 60, 1), STATE);
      for (int n : beyond(1, 60)) due("drift(1, " + n + ", 0)", x.drift(1, n, 0), BAD);
      x = told("house 0 9 0;");
      for (int n : beyond(1, 60)) due("drift(1, " + n + ", 0)", x.drift(1, n, 0), BAD);
      for (int what : beyond(0, 1)) due("drift(1, 1, " + what + ")", x.drift(1, 1, what), BAD);
    });
  }

  // ---- images, sheets

  private static void images() {
    sentence(37, "IMAGE k (0, 1) is HOUSES, THINGS, RISES, WIND, LEVEL, DAY, SORROW: whether there was one (1, 0).", () -> {
      ArkTerrace x = told("house 0 9 1;plain 0 2 5;plain 0 1 6;level 3;wind 7;rise 0 6;");
      due("keep(1)", x.keep(1), 0);
      due("keep(1)", x.keep(1), 1);
      due("count(1)", x.count(1), 1);
      due("keep(0)", x.keep(0), 0);
      due("keep(0)", x.keep(0), 1);
      due("count(1)", x.count(1), 2);
      x.stow(0);
      x.days(2);
      due("keep(0) in place of it", x.keep(0), 1);
      due("back(0)", x.back(0), 2);
      due("back(1)", x.back(1), 0);
    });
    sentence(37, "BAD.", () -> {
      ArkTerrace x = told("");
      for (int k : beyond(0, 1)) due("keep(" + k + ")", x.keep(k), BAD);
      due("count(1)", x.count(1), 0);
    });
    sentence(38, "All is as IMAGE k: DAY.", EdgesOfCallsTest::allIsAsTheImage);
    sentence(38, "BAD;", () -> {
      ArkTerrace x = told("");
      x.keep(0);
      x.keep(1);
      for (int k : beyond(0, 1)) due("back(" + k + ")", x.back(k), BAD);
    });
    sentence(38, "STATE: there is none.", () -> {
      ArkTerrace x = told("");
      due("back(0)", x.back(0), STATE);
      x.keep(0);
      due("back(1)", x.back(1), STATE);
      due("back(0)", x.back(0), 0);
      due("back(0) again", x.back(0), 0);
      Sentences.feedAll(x, "wind 4;");
      x.text();
      due("back(0) behind a text", x.back(0), STATE);
      due("keep(0) behind a text", x.keep(0), 0);
    });
  }

  private static void allIsAsTheImage() {
    ArkTerrace x = told("house 0 9 1;house 9 8 2;plain 0 2 5;plain 0 1 6;self 1 3 1;level 3;wind 7;rise 0 6;");
    x.stow(0);
    x.days(9);
    x.sheet(0, 0, 3);
    x.keep(1);
    int[] rule = {2, 3, 9, 7, 11, 7, 1, 0, 3};
    x.days(30);
    x.blow(0);
    x.tide(0, 0);
    x.tide(6, 0);
    for (int h = 0; h < 2; h++)
      for (int what = 0; what < 4; what++) x.build(h, what, 3);
    for (int i = 0; i < 3; i++)
      for (int what = 0; what < 3; what++) x.alter(i, what, 2);
    x.see(0, 0);
    x.feed(' ');
    due("back(1)", x.back(1), 9);
    for (int what = 0; what < 9; what++) due("rule(" + what + ")", x.rule(what), rule[what]);
    int[][] house = {{0, 0, 1, 77, 0, 3}, {9, 8, 2, 50, 0, 4}};
    for (int h = 0; h < 2; h++)
      for (int what = 0; what < 6; what++) due("house(" + h + ", " + what + ")", x.house(h, what), house[h][what]);
    int[][] thing = {{0, 0, 2, 5, 2}, {0, 0, 1, 6, 2}, {3, 1, 3, 1, 0}};
    for (int i = 0; i < 3; i++)
      for (int what = 0; what < 5; what++) due("thing(" + i + ", " + what + ")", x.thing(i, what), thing[i][what]);
    for (int d = 0; d < 7; d++) due("rise(" + d + ")", x.rise(d), d == 0 ? 6 : 4);
    due("what is SEEN is no part of it", x.count(0), 1);
    due("THE TAPE is no part of it", x.count(2), 1);
    due("SHEETS are no part of it", x.count(3), 3);
    x.days(1);
    x.build(1, 0, 1);
    due("back(1), which is as it was kept", x.back(1), 9);
    due("HEIGHT", x.house(1, 0), 9);
  }

  private static void sheets() {
    sentence(39, "A SHEET is a new row of CELLS 0: 1.", () -> {
      ArkTerrace x = told("house 9 40 0;plain 0 1 1;plain 0 1 1;");
      due("sheet(0, 0, 40)", x.sheet(0, 0, 40), 1);
      due("count(3)", x.count(3), 40);
      x.lay(0, 39, 1);
      x.lay(0, 0, 1);
      due("sheet(0, 0, 40)", x.sheet(0, 0, 40), 1);
      due("read(0, 0, 39, 1)", x.read(0, 0, 39, 1), 1);
      due("rule(7), CELL 39 is 0", x.rule(7), 1);
      x.fetch(0);
      due("read(0, 0, 0, 1)", x.read(0, 0, 0, 1), 1);
      due("rule(7), CELL 0 is 0", x.rule(7), 1);
      due("sheet(0, 2, 0)", x.sheet(0, 2, 0), 1);
      due("count(3)", x.count(3), 0);
    });
    sentence(39, "BAD: also n above 40", () -> {
      ArkTerrace x = told("");
      for (int k : beyond(0, 3)) due("sheet(" + k + ", 0, 1)", x.sheet(k, 0, 1), BAD);
      for (int lane : beyond(0, 2)) due("sheet(0, " + lane + ", 1)", x.sheet(0, lane, 1), BAD);
      due("sheet(0, 0, 41)", x.sheet(0, 0, 41), BAD);
      due("sheet(0, 0, MAX)", x.sheet(0, 0, MAX), BAD);
      due("count(3)", x.count(3), NONE);
    });
    sentence(39, "-14 (SIZE): n below 0.", () -> {
      ArkTerrace x = told("");
      due("sheet(0, 0, -1)", x.sheet(0, 0, -1), -14);
      due("sheet(3, 2, MIN)", x.sheet(3, 2, MIN), -14);
      due("count(3)", x.count(3), NONE);
      x.sheet(0, 0, 3);
      due("sheet(0, 0, -1)", x.sheet(0, 0, -1), -14);
      due("count(3)", x.count(3), 3);
    });
    sentence(40, "CELL i of a SHEET becomes v (its lowest bits): 1.", EdgesOfCallsTest::theLowestBits);
    sentence(40, "BAD: k", () -> {
      ArkTerrace x = told("");
      for (int k : beyond(0, 3)) due("lay(" + k + ", 0, 0)", x.lay(k, 0, 0), BAD);
    });
    sentence(40, "-10 less the FAULT: NULL, INDEX.", () -> {
      ArkTerrace x = told("");
      for (int i : new int[] {0, -1, 40, MIN, MAX}) due("lay(2, " + i + ", 0) of nothing", x.lay(2, i, 0), -11);
      x.sheet(2, 1, 3);
      for (int i : beyond(0, 2)) due("lay(2, " + i + ", 0) of 3", x.lay(2, i, 0), -12);
      due("lay(2, 2, 0) of 3", x.lay(2, 2, 0), 1);
      x.sheet(2, 1, 40);
      due("lay(2, 40, 0) of 40", x.lay(2, 40, 0), -12);
      due("lay(2, 39, 0) of 40", x.lay(2, 39, 0), 1);
      x.sheet(2, 1, 0);
      due("lay(2, 0, 0) of 0", x.lay(2, 0, 0), -12);
      due("torn() is of read() alone", x.torn(), 0);
    });
  }

  private static void theLowestBits() {
    ArkTerrace x = told("house 9 40 0;plain 0 1 1;plain 0 1 1;");
    int[][] ones = {{1, 257, -255, 65537, MIN + 1}, {1, 65537, -65535, MIN + 1}, {1}};
    int[][] none = {{127, 255, 128, -1}, {257, -255, 32767, -32768}, {257, 65537, -65535, MIN + 1, MAX, MIN}};
    for (int lane = 0; lane < 3; lane++) {
      x.sheet(lane, lane, 2);
      for (int v : ones[lane]) {
        due("lay(" + lane + ", 1, " + v + ")", x.lay(lane, 1, v), 1);
        due("read(" + lane + ", " + lane + ", 1, 1)", x.read(lane, lane, 1, 1), 1);
        due("rule(7), 1 by its lowest bits", x.rule(7), 2);
        x.fetch(1);
      }
      for (int v : none[lane]) {
        due("lay(" + lane + ", 1, " + v + ")", x.lay(lane, 1, v), 1);
        due("read(" + lane + ", " + lane + ", 1, 1), no THING", x.read(lane, lane, 1, 1), -20);
      }
      due("read(" + lane + ", " + lane + ", 0, 1), the CELL ahead is 0", x.read(lane, lane, 0, 1), 1);
      x.fetch(0);
    }
  }

  /** Eight things, of which the last has no room; a sheet of 8 cells, 0 to 7, of shorts. */
  private static ArkTerrace listed() {
    ArkTerrace x = told("house 9 7 0;" + "plain 0 1 1;".repeat(8) + "rise 0 8;");
    x.sheet(1, 1, 8);
    for (int k = 0; k < 8; k++) x.lay(1, k, k);
    return x;
  }

  private static void reading() {
    sentence(41, "n (0 to 40) THINGS are read of a SHEET taken as of a lane, one CELL each from CELL f on, one behind another as by stow(): how many came.", () -> {
      ArkTerrace x = listed();
      due("read(1, 1, 0, 0)", x.read(1, 1, 0, 0), 0);
      due("rule(7)", x.rule(7), 0);
      due("read(1, 1, 7, 1), the last CELL", x.read(1, 1, 7, 1), 1);
      due("rule(7)", x.rule(7), 128);
      due("read(1, 1, 1, 6)", x.read(1, 1, 1, 6), 6);
      due("rule(7)", x.rule(7), 254);
      due("torn()", x.torn(), 0);
      x = listed();
      x.build(0, 1, 8);
      due("read(1, 1, 0, 8), all", x.read(1, 1, 0, 8), 8);
      due("rule(7)", x.rule(7), 255);
      x = listed();
      x.sheet(1, 1, 40);
      for (int k = 0; k < 7; k++) x.lay(1, k + 33, k);
      due("read(1, 1, 33, 40)", x.read(1, 1, 33, 40), 7);
      due("torn() behind CELL 39", x.torn(), 2);
    });
    sentence(41, "What the machine refuses: those that were whole ahead came (its FAULT is asked by torn()", () -> {
      ArkTerrace x = listed();
      due("read(1, 1, 5, 4), three of them", x.read(1, 1, 5, 4), 3);
      due("torn()", x.torn(), 2);
      due("rule(7)", x.rule(7), 224);
      due("read(1, 1, 8, 1), behind the last", x.read(1, 1, 8, 1), 0);
      due("torn()", x.torn(), 2);
      for (int f : new int[] {-1, -8, MIN, MAX, MAX - 38}) {
        due("read(1, 1, " + f + ", 40)", x.read(1, 1, f, 40), 0);
        due("torn()", x.torn(), 2);
      }
      due("read(1, 0, 0, 1), another lane", x.read(1, 0, 0, 1), 0);
      due("torn()", x.torn(), 3);
      due("read(1, 2, 99, 1), another lane", x.read(1, 2, 99, 1), 0);
      due("torn()", x.torn(), 3);
      due("read(2, 1, -1, 1), nothing", x.read(2, 1, -1, 1), 0);
      due("torn()", x.torn(), 1);
      due("rule(7)", x.rule(7), 224);
    });
    sentence(41, "of n 0: 0, no FAULT, whatever the SHEET is)", () -> {
      ArkTerrace x = listed();
      x.sheet(3, 2, 0);
      int[][] none = {{0, 0, 0}, {1, 0, 0}, {1, 1, -1}, {1, 1, 8}, {1, 2, MIN}, {3, 2, MAX}};
      for (int[] a : none) {
        x.read(0, 0, 0, 1);
        due("torn()", x.torn(), 1);
        due("read(" + a[0] + ", " + a[1] + ", " + a[2] + ", 0)", x.read(a[0], a[1], a[2], 0), 0);
        due("torn()", x.torn(), 0);
      }
    });
    sentence(41, "BAD: k, lane, n", () -> {
      ArkTerrace x = listed();
      for (int k : beyond(0, 3)) due("read(" + k + ", 1, 0, 1)", x.read(k, 1, 0, 1), BAD);
      for (int lane : beyond(0, 2)) due("read(1, " + lane + ", 0, 1)", x.read(1, lane, 0, 1), BAD);
      for (int n : beyond(0, 40)) due("read(1, 1, 0, " + n + ")", x.read(1, 1, 0, n), BAD);
      due("read(4, 1, 0, 0)", x.read(4, 1, 0, 0), BAD);
      due("rule(7)", x.rule(7), 0);
    });
    sentence(41, "-20 less i (0 on): the i-th is refused by stow() (in whichever way): then none came; the first met.", EdgesOfCallsTest::refusedByStow);
  }

  private static void refusedByStow() {
    ArkTerrace x = listed();
    due("read(1, 1, 0, 8), 7 has no ROOM", x.read(1, 1, 0, 8), -27);
    due("rule(7)", x.rule(7), 0);
    due("read(1, 1, 0, 40), 7 has no ROOM ahead of the end", x.read(1, 1, 0, 40), -27);
    x.build(0, 1, 8);
    x.sheet(0, 0, 40);
    for (int k = 0; k < 8; k++) x.lay(0, k, k);
    due("read(0, 0, 0, 40), 0 is IN by then", x.read(0, 0, 0, 40), -28);
    due("rule(7)", x.rule(7), 0);
    x.lay(1, 0, 8);
    due("read(1, 1, 0, 1), no THING", x.read(1, 1, 0, 1), -20);
    x.lay(1, 0, -1);
    due("read(1, 1, 0, 1), no THING", x.read(1, 1, 0, 1), -20);
    x.lay(1, 0, 2);
    due("read(1, 1, 0, 3), 2 twice", x.read(1, 1, 0, 3), -22);
    due("rule(7)", x.rule(7), 0);
    x.stow(3);
    due("read(1, 1, 2, 2), 3 is IN", x.read(1, 1, 2, 2), -21);
    due("rule(7)", x.rule(7), 8);
    due("read(1, 1, 2, 9), 3 ahead of the end", x.read(1, 1, 2, 9), -21);
    x.build(0, 0, 3);
    x.days(1);
    due("read(1, 1, 3, 1), AFLOAT", x.read(1, 1, 3, 1), -20);
    due("read(1, 1, 7, 2), LOST ahead of the end", x.read(1, 1, 7, 2), -20);
    due("read(1, 1, -1, 2), INDEX ahead of all", x.read(1, 1, -1, 2), 0);
  }

  private static void torn() {
    sentence(42, "The FAULT of the latest read() that answered 0 or more; 0 (one that is refused leaves it).", () -> {
      ArkTerrace x = listed();
      due("torn() of no read()", x.torn(), 0);
      x.read(1, 1, 7, 2);
      due("torn() of INDEX", x.torn(), 2);
      x.read(1, 1, 7, 1);
      due("torn(), refused by stow()", x.torn(), 2);
      x.read(4, 1, 0, 1);
      x.read(1, 3, 0, 1);
      x.read(1, 1, 0, 41);
      due("torn(), BAD", x.torn(), 2);
      x.read(1, 1, 0, 1);
      due("torn() of none", x.torn(), 0);
      x.read(1, 2, 0, 1);
      due("torn() of CAST", x.torn(), 3);
      x.lay(0, 0, 0);
      x.sheet(0, 0, -1);
      due("torn(), not of lay(), sheet()", x.torn(), 3);
      x.read(0, 0, 0, 1);
      due("torn() of NULL", x.torn(), 1);
    });
  }

  private static void counts() {
    sentence(43, "0 SEEN, 1 IMAGES, 2 bytes on THE TAPE", () -> {
      ArkTerrace x = told("");
      for (int what = 0; what < 3; what++) due("count(" + what + ")", x.count(what), 0);
      for (int k = 0; k < 7; k++) x.see(0, 0);
      due("count(0)", x.count(0), 6);
      x.keep(1);
      due("count(1)", x.count(1), 1);
      x.keep(0);
      x.keep(0);
      due("count(1)", x.count(1), 2);
      for (int k = 0; k < 161; k++) x.feed(' ');
      due("count(2)", x.count(2), 160);
    });
    sentence(43, "3 CELLS of SHEET 0 (NONE: nothing)", () -> {
      ArkTerrace x = told("");
      x.sheet(1, 0, 5);
      due("count(3) of nothing", x.count(3), NONE);
      x.sheet(0, 1, 0);
      due("count(3) of no CELLS", x.count(3), 0);
      x.sheet(0, 2, 40);
      due("count(3)", x.count(3), 40);
    });
    sentence(43, "4 ROOM of all ARKS, 5 WORTH of all THINGS.", () -> {
      ArkTerrace x = told("");
      due("count(4) of no ARKS", x.count(4), 0);
      due("count(5) of no THINGS", x.count(5), 0);
      x = told(CROWD);
      due("count(4)", x.count(4), 160);
      due("count(5)", x.count(5), 72);
      x.build(0, 2, 3);
      x.days(1);
      due("count(4) by a LEAK", x.count(4), 157);
      due("count(5), all LOST", x.count(5), 72);
      Sentences.feedAll(x, "house 1 7 1;self 0 1 2;");
      x.text();
      due("count(4)", x.count(4), 7);
      due("count(5)", x.count(5), 2);
    });
    sentence(43, "BAD.", () -> {
      ArkTerrace x = told(CROWD);
      for (int what : beyond(0, 5)) due("count(" + what + ")", x.count(what), BAD);
    });
  }

  public static void main(String[] args) throws Exception {
    aNewObject();
    theTape();
    theText();
    whatThereIs();
    whatIsBuilt();
    stowing();
    days();
    byDays();
    lostAndMet();
    packing();
    whatIsNeeded();
    swapping();
    saving();
    theBestKind();
    storms();
    seeing();
    whatItWas();
    asking();
    drifting();
    images();
    sheets();
    reading();
    torn();
    counts();
    Sentences.finish(1, 43);
  }
}
