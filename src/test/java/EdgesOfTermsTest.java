import java.util.ArrayList;
import java.util.List;
import java.util.function.ToLongFunction;

/** What the document names under "Terms" as an edge, sentence by sentence. */
public final class EdgesOfTermsTest {
  private static final int BAD = Sentences.BAD, STATE = Sentences.STATE, FULL = Sentences.FULL, NONE = Sentences.NONE;
  private static final int MIN = Sentences.MIN;

  private static void terms(String words, Runnable test) {
    Sentences.sentence(Sentences.TERMS, words, test);
  }

  private static void due(String call, long got, long want) {
    Sentences.due(call, got, want);
  }

  private static ArkTerrace told(String text) {
    return Sentences.told(text);
  }

  private static ArkTerrace taken(String text, int lines) {
    return Sentences.taken(text, lines);
  }

  private static void faulty(String text, int place, int fault) {
    Sentences.faulty(text, place, fault);
  }

  // ---- answers

  private static void answers() {
    terms("BAD -1 (a number is not as told, there is no such HOUSE, THING, IMAGE, SHEET), STATE -2 (as told), FULL -3, NONE -4 (there is none)", () -> {
      due("BAD", ArkTerrace.BAD, -1);
      due("STATE", ArkTerrace.STATE, -2);
      due("FULL", ArkTerrace.FULL, -3);
      due("NONE", ArkTerrace.NONE, -4);
      noSuchHouse();
      noSuchThing();
      noSuchImageOrSheet();
    });
    terms("the first that fits", EdgesOfTermsTest::theFirstThatFits);
    terms("what is refused changes nothing (but THE TAPE, as told)", EdgesOfTermsTest::whatIsRefusedChangesNothing);
    terms("What is numbered has its numbers from 0 on, as it comes, where nothing else is told.", () -> {
      ArkTerrace x = told("plain 1 1 4;house 7 1 0;self 0 2 5;house 8 2 0;");
      due("house(0, 0)", x.house(0, 0), 7);
      due("house(1, 0)", x.house(1, 0), 8);
      due("thing(0, 3)", x.thing(0, 3), 4);
      due("thing(1, 3)", x.thing(1, 3), 5);
      due("house(0, 5)", x.house(0, 5), 2);
      due("house(1, 5)", x.house(1, 5), 1);
    });
    terms("Fractions are in lowest terms, told as two numbers, first the numerator, then the denominator, which is above 0 (0 is 0 by 1).", () -> {
      ArkTerrace x = told("house 1 9 0;plain 0 1 6;");
      due("luck(5, 0, 1, 0), a half", x.luck(5, 0, 1, 0), 1);
      due("luck(5, 0, 1, 1), a half", x.luck(5, 0, 1, 1), 2);
      due("luck(6, 0, 2, 0), 16 of 100", x.luck(6, 0, 2, 0), 4);
      due("luck(6, 0, 2, 1), 16 of 100", x.luck(6, 0, 2, 1), 25);
      due("luck(10, 0, 8, 0), none", x.luck(10, 0, 8, 0), 0);
      due("luck(10, 0, 8, 1), none", x.luck(10, 0, 8, 1), 1);
      due("luck(0, 0, 8, 0), whole", x.luck(0, 0, 8, 0), 1);
      due("luck(0, 0, 8, 1), whole", x.luck(0, 0, 8, 1), 1);
      due("mean(5, 1, 0), 30 by 10", x.mean(5, 1, 0), 3);
      due("mean(5, 1, 1), 30 by 10", x.mean(5, 1, 1), 1);
      due("mean(2, 1, 0), 12 by 10", x.mean(2, 1, 0), 6);
      due("mean(2, 1, 1), 12 by 10", x.mean(2, 1, 1), 5);
      due("mean(0, 8, 0), none", x.mean(0, 8, 0), 0);
      due("mean(0, 8, 1), none", x.mean(0, 8, 1), 1);
    });
  }

  private static void noSuchHouse() {
    ArkTerrace x = told("house 1 9 0;house 1 9 0;plain 0 1 1;plain 1 1 1;");
    for (int h : Sentences.beyond(0, 1)) {
      due("house(" + h + ", 0)", x.house(h, 0), BAD);
      due("build(" + h + ", 0, 0)", x.build(h, 0, 0), BAD);
      due("ahead(" + h + ", 0, 0)", x.ahead(h, 0, 0), BAD);
      due("meet(" + h + ", 0)", x.meet(h, 0), BAD);
      due("meet(0, " + h + ")", x.meet(0, h), BAD);
      due("pack(" + h + ", 0)", x.pack(h, 0), BAD);
      due("need(" + h + ", 0)", x.need(h, 0), BAD);
      due("high(" + h + ", 0)", x.high(h, 0), BAD);
      due("leak(" + h + ", 0)", x.leak(h, 0), BAD);
      due("leaks(" + h + ")", x.leaks(h), BAD);
      due("rooms(" + h + ")", x.rooms(h), BAD);
      due("ask(" + h + ", 0)", x.ask(h, 0), BAD);
    }
  }

  private static void noSuchThing() {
    ArkTerrace x = told("house 1 9 0;house 1 9 0;plain 0 1 1;plain 1 1 1;");
    for (int i : Sentences.beyond(0, 1)) {
      due("thing(" + i + ", 0)", x.thing(i, 0), BAD);
      due("alter(" + i + ", 1, 1)", x.alter(i, 1, 1), BAD);
      due("stow(" + i + ")", x.stow(i), BAD);
      due("fetch(" + i + ")", x.fetch(i), BAD);
      due("lost(" + i + ")", x.lost(i), BAD);
      due("kind(" + i + ", 0, 0)", x.kind(i, 0, 0), BAD);
      due("luck(0, " + i + ", 0, 0)", x.luck(0, i, 0, 0), BAD);
      due("kinds(" + i + ")", x.kinds(i), BAD);
    }
  }

  private static void noSuchImageOrSheet() {
    ArkTerrace x = told("house 1 9 0;plain 0 1 1;");
    for (int k : Sentences.beyond(0, 1)) {
      due("keep(" + k + ")", x.keep(k), BAD);
      due("back(" + k + ")", x.back(k), BAD);
    }
    for (int k : Sentences.beyond(0, 3)) {
      due("sheet(" + k + ", 0, 1)", x.sheet(k, 0, 1), BAD);
      due("lay(" + k + ", 0, 0)", x.lay(k, 0, 0), BAD);
      due("read(" + k + ", 0, 0, 0)", x.read(k, 0, 0, 0), BAD);
    }
  }

  private static void theFirstThatFits() {
    ArkTerrace x = new ArkTerrace();
    for (int k = 0; k < 160; k++) x.feed(' ');
    due("feed(128) behind 160", x.feed(128), BAD);
    due("drift(1, 0, 0) without HOUSES", x.drift(1, 0, 0), BAD);
    due("drift(1, 1, 2) without HOUSES", x.drift(1, 1, 2), BAD);
    due("back(2) without IMAGES", x.back(2), BAD);
    due("swap(61, 0) without THINGS", x.swap(61, 0), BAD);
    due("save(0, 2) without THINGS", x.save(0, 2), BAD);
    due("lay(4, 0, 0) of nothing", x.lay(4, 0, 0), BAD);
    due("lay(3, -1, 0) of nothing: NULL ahead of INDEX", x.lay(3, -1, 0), -11);
    due("sheet(4, 0, -1)", x.sheet(4, 0, -1), BAD);
    due("sheet(0, 3, -1)", x.sheet(0, 3, -1), BAD);
    due("read(0, 3, 0, 1) of nothing", x.read(0, 3, 0, 1), BAD);
    x = told("house 3 1 1;plain 0 1 1;plain 0 1 1;rise 0 8;rise 1 0;");
    due("meet(0, 0), which never floats", x.meet(0, 0), BAD);
    x.stow(0);
    due("stow(0), IN a full ARK", x.stow(0), STATE);
    x.days(1);
    due("stow(0), LOST, AFLOAT, without ROOM", x.stow(0), STATE);
    x.days(1);
    due("stow(1), LOST, without ROOM", x.stow(1), STATE);
    for (int k = 0; k < 6; k++) x.see(0, 0);
    due("see(21, 0) behind six", x.see(21, 0), BAD);
    due("ask(0, 2) when there is none to ask", x.ask(0, 2), BAD);
    for (int k = 0; k < 33; k++) x.days(30);
    due("days(31) on DAY 992", x.days(31), BAD);
    due("days(-1) on DAY 992", x.days(-1), BAD);
  }

  /** Each kind of thing that can be changed is not as at first. */
  private static ArkTerrace rich() {
    ArkTerrace x = told("house 2 12 1;house 9 6 0;plain 0 3 4;piano 0 5 9;father 1 4 2;self 1 9 1;plain 1 2 9;plain 0 9 9;wind 6;rise 0 7;rise 2 8;");
    x.keep(0);
    x.stow(0);
    x.stow(2);
    x.days(1);
    x.see(0, x.rule(4));
    x.see(3, 31);
    x.see(1, 18);
    x.see(1, 18);
    x.see(1, 18);
    x.see(1, 18);
    x.sheet(0, 0, 2);
    x.lay(0, 1, 4);
    x.sheet(1, 2, 1);
    x.lay(1, 0, 4);
    x.read(3, 0, 0, 1);
    Sentences.feedAll(x, "level 21;");
    x.text();
    Sentences.feedAll(x, "house 1 2 3;");
    return x;
  }

  /** All that can be asked of it, then what shows only by a change. */
  private static List<Long> shown(ArkTerrace x) {
    List<Long> shown = new ArrayList<>();
    for (int what = 0; what < 9; what++) shown.add((long) x.rule(what));
    for (int h = 0; h < 2; h++)
      for (int what = 0; what < 6; what++) shown.add((long) x.house(h, what));
    for (int i = 0; i < 6; i++)
      for (int what = 0; what < 5; what++) shown.add((long) x.thing(i, what));
    for (int d = 0; d < 7; d++) shown.add((long) x.rise(d));
    for (int what = 0; what < 6; what++) shown.add((long) x.count(what));
    shown.add((long) x.fault());
    shown.add((long) x.torn());
    shown.add((long) x.kinds(1));
    shown.add((long) x.leaks(0));
    shown.add((long) x.rooms(0));
    for (int k = 0; k < 4; k++) {
      shown.add((long) x.read(k, k == 1 ? 2 : 0, k == 0 ? 1 : 0, 1));
      shown.add((long) x.rule(7));
    }
    shown.add((long) x.back(1));
    shown.add((long) x.back(0));
    shown.add((long) x.rule(7));
    shown.add((long) x.text());
    shown.add((long) x.house(0, 2));
    return shown;
  }

  private static void refused(String call, long want, ToLongFunction<ArkTerrace> made) {
    ArkTerrace x = rich();
    due(call, made.applyAsLong(x), want);
    List<Long> without = shown(rich());
    List<Long> with = shown(x);
    for (int k = 0; k < without.size(); k++) due(call + " changes nothing: answer " + k, with.get(k), without.get(k));
  }

  private static void whatIsRefusedChangesNothing() {
    refused("feed(128)", BAD, x -> x.feed(128));
    refused("feed(-1)", BAD, x -> x.feed(-1));
    refused("end(-1)", BAD, x -> x.end(-1));
    refused("end(13)", BAD, x -> x.end(13));
    refused("build(0, 0, 21)", BAD, x -> x.build(0, 0, 21));
    refused("build(0, 1, -1)", BAD, x -> x.build(0, 1, -1));
    refused("alter(0, 1, 10)", BAD, x -> x.alter(0, 1, 10));
    refused("alter(0, 0, 4)", BAD, x -> x.alter(0, 0, 4));
    refused("tide(0, 9)", BAD, x -> x.tide(0, 9));
    refused("blow(9)", BAD, x -> x.blow(9));
    refused("stow(0), IN", STATE, x -> x.stow(0));
    refused("stow(1), LOST", STATE, x -> x.stow(1));
    refused("stow(3), too big", FULL, x -> x.stow(3));
    refused("fetch(0), AFLOAT", STATE, x -> x.fetch(0));
    refused("fetch(4), OUT", STATE, x -> x.fetch(4));
    refused("days(31)", BAD, x -> x.days(31));
    refused("days(-1)", BAD, x -> x.days(-1));
    refused("see(0, 1000)", BAD, x -> x.see(0, 1000));
    refused("see(0, 0) behind six", FULL, x -> x.see(0, 0));
    refused("forget(7)", BAD, x -> x.forget(7));
    refused("forget(-1)", BAD, x -> x.forget(-1));
    refused("keep(2)", BAD, x -> x.keep(2));
    refused("back(2)", BAD, x -> x.back(2));
    refused("back(1)", STATE, x -> x.back(1));
    refused("sheet(0, 1, 41)", BAD, x -> x.sheet(0, 1, 41));
    refused("sheet(0, 3, 1)", BAD, x -> x.sheet(0, 3, 1));
    refused("sheet(0, 1, -1)", -14, x -> x.sheet(0, 1, -1));
    refused("sheet(2, 1, -1)", -14, x -> x.sheet(2, 1, -1));
    refused("lay(0, 2, 9)", -12, x -> x.lay(0, 2, 9));
    refused("lay(2, 0, 9)", -11, x -> x.lay(2, 0, 9));
    refused("read(0, 0, 0, 41)", BAD, x -> x.read(0, 0, 0, 41));
    refused("read(0, 0, 0, 2), 0 is IN", -20, x -> x.read(0, 0, 0, 2));
    refusedBehindOthers();
    ArkTerrace x = rich();
    Sentences.feedAll(x, "cat");
    due("text() with a FAULT", x.text(), -22);
    due("THE TAPE is empty by it", x.count(2), 0);
  }

  private static void refusedBehindOthers() {
    ArkTerrace x = told("house 9 9 0;plain 0 1 1;plain 0 9 1;");
    x.sheet(0, 0, 2);
    x.lay(0, 1, 1);
    due("read(0, 0, 0, 2), whose second is too big", x.read(0, 0, 0, 2), -21);
    due("none is IN", x.rule(7), 0);
    x = told("house 1 1 0;");
    for (int k = 0; k < 33; k++) x.days(30);
    due("days(10) on DAY 990", x.days(10), FULL);
    due("DAY is 990", x.rule(2), 990);
    for (int k = 0; k < 160; k++) x.feed(' ');
    due("feed(37) behind 160", x.feed('%'), FULL);
    due("THE TAPE has 160 blanks", x.text(), 0);
  }

  // ---- houses, things, the week

  private static void houses() {
    terms("HOUSES (4 at most), by order", () -> {
      String house = "house 1 9 0;";
      due("rule(0)", taken(house.repeat(4), 4).rule(0), 4);
      faulty(house.repeat(5), 48, 5);
    });
    terms("each of a HEIGHT (0 to 20)", () -> {
      due("house(0, 0)", taken("house 0 9 0;", 1).house(0, 0), 0);
      due("house(0, 0)", taken("house 20 9 0;", 1).house(0, 0), 20);
      faulty("house 21 9 0;", 6, 3);
    });
    terms("with an ARK of a ROOM (0 to 40)", () -> {
      due("house(0, 1)", taken("house 9 0 0;", 1).house(0, 1), 0);
      due("house(0, 1)", taken("house 9 40 0;", 1).house(0, 1), 40);
      faulty("house 9 41 0;", 8, 3);
    });
    terms("a LEAK (0 to 3)", () -> {
      due("house(0, 2)", taken("house 9 9 0;", 1).house(0, 2), 0);
      due("house(0, 2)", taken("house 9 9 3;", 1).house(0, 2), 3);
      faulty("house 9 9 4;", 10, 3);
    });
    terms("AT a PLACE (0 to 99; 50 at first)", () -> {
      ArkTerrace x = taken("house 9 9 0;house 9 9 0;", 2);
      due("house(0, 3)", x.house(0, 3), 50);
      due("house(1, 3)", x.house(1, 3), 50);
      due("build(0, 3, 99)", x.build(0, 3, 99), 50);
      due("build(0, 3, 0)", x.build(0, 3, 0), 99);
      due("build(0, 3, 100)", x.build(0, 3, 100), BAD);
      Sentences.feedAll(x, "house 9 9 0;");
      x.text();
      due("house(0, 3) by a new text", x.house(0, 3), 50);
    });
    terms("AFLOAT or not (not at first)", () -> {
      ArkTerrace x = taken("level 20;house 0 9 0;plain 0 1 1;", 3);
      due("rule(6), LEVEL above HEIGHT", x.rule(6), 0);
      due("stow(0)", x.stow(0), 8);
      due("fetch(0)", x.fetch(0), 9);
      due("rule(8)", x.rule(8), 0);
      x.days(1);
      due("rule(6) behind a DAY", x.rule(6), 1);
      Sentences.feedAll(x, "house 0 9 0;level 20;");
      x.text();
      due("rule(6) by a new text", x.rule(6), 0);
    });
  }

  private static void things() {
    terms("THINGS (8 at most), by order", () -> {
      String thing = "self 0 1 1;";
      due("rule(1)", taken("house 1 9 0;" + thing.repeat(8), 9).rule(1), 8);
      due("rule(0), a HOUSE behind eight", taken(thing.repeat(8) + "house 1 9 0;", 9).rule(0), 1);
      due("rule(1), a THING behind four", taken("house 1 9 0;".repeat(4) + thing, 5).rule(1), 1);
      faulty("house 1 9 0;" + thing.repeat(9), 100, 5);
    });
    terms("each of a KIND (0 plain, 1 piano, 2 father, 3 self)", () -> {
      ArkTerrace x = taken("house 1 9 0;self 0 1 1;father 0 1 1;piano 0 1 1;plain 0 1 1;", 5);
      for (int i = 0; i < 4; i++) due("thing(" + i + ", 0)", x.thing(i, 0), 3 - i);
    });
    terms("of a SIZE (1 to 9)", () -> {
      due("thing(0, 2)", taken("house 1 9 0;plain 0 1 1;", 2).thing(0, 2), 1);
      due("thing(0, 2)", taken("house 1 9 0;plain 0 9 1;", 2).thing(0, 2), 9);
      faulty("plain 0 0 1;", 8, 3);
      faulty("plain 0 10 1;", 8, 3);
    });
    terms("of a WORTH (0 to 9)", () -> {
      due("thing(0, 3)", taken("house 1 9 0;plain 0 1 0;", 2).thing(0, 3), 0);
      due("thing(0, 3)", taken("house 1 9 0;plain 0 1 9;", 2).thing(0, 3), 9);
      faulty("plain 0 1 10;", 10, 3);
    });
    terms("OUT (at first)", () -> {
      ArkTerrace x = taken("house 1 9 0;plain 0 1 1;self 0 1 1;", 3);
      due("thing(0, 4)", x.thing(0, 4), 0);
      due("thing(1, 4)", x.thing(1, 4), 0);
      x.stow(0);
      Sentences.feedAll(x, "house 1 9 0;plain 0 1 1;");
      x.text();
      due("thing(0, 4) by a new text", x.thing(0, 4), 0);
    });
  }

  private static void theWeek() {
    terms("RISE for each day of a week (0 to 6): 0 to 8 (4 at first: none; more: it rises, less: it falls).", () -> {
      ArkTerrace x = taken("level 9;rise 0 0;rise 1 8;rise 2 5;rise 3 3;rise 6 6;", 6);
      int[] rise = {0, 8, 5, 3, 4, 4, 6};
      int[] level = {5, 9, 10, 9, 9, 9, 11};
      for (int d = 0; d < 7; d++) {
        due("rise(" + d + ")", x.rise(d), rise[d]);
        x.days(1);
        due("LEVEL behind DAY " + d, x.rule(3), level[d]);
      }
      faulty("rise 7 4;", 5, 3);
      faulty("rise 6 9;", 7, 3);
    });
    terms("WIND (0 to 8; 4 at first: none).", () -> {
      int[] wind = {0, 8, 4};
      int[] place = {46, 54, 50};
      for (int k = 0; k < 3; k++) {
        ArkTerrace x = taken("level 1;house 0 9 0;wind " + wind[k] + ";", 3);
        due("rule(5)", x.rule(5), wind[k]);
        x.days(1);
        due("PLACE behind a DAY", x.house(0, 3), place[k]);
      }
      ArkTerrace x = taken("level 1;house 0 9 0;", 2);
      due("rule(5) at first", x.rule(5), 4);
      x.days(1);
      due("PLACE behind a DAY", x.house(0, 3), 50);
      faulty("wind 9;", 5, 3);
    });
    terms("LEVEL (0 to 20; 0 at first), DAY, SORROW (0 at first).", () -> {
      due("rule(3)", taken("level 20;", 1).rule(3), 20);
      due("rule(3)", taken("level 0;", 1).rule(3), 0);
      faulty("level 21;", 6, 3);
      ArkTerrace x = taken("level 9;house 0 9 0;plain 0 1 5;", 3);
      x.days(3);
      due("SORROW", x.rule(4), 5);
      due("text() of nothing", x.text(), 0);
      for (int what = 2; what < 5; what++) due("rule(" + what + ") at first", x.rule(what), 0);
    });
    terms("It is that day of the week which DAY leaves by 7.", EdgesOfTermsTest::theWeekComesRound);
  }

  private static void theWeekComesRound() {
    ArkTerrace x = told("rise 0 5;rise 6 6;");
    int[] level = {1, 1, 1, 1, 1, 1, 3, 4, 4, 4, 4, 4, 4, 6, 7};
    for (int d = 0; d < level.length; d++) {
      x.days(1);
      due("LEVEL behind DAY " + d, x.rule(3), level[d]);
    }
    x = told("");
    for (int k = 0; k < 33; k++) x.days(30);
    x.days(9);
    // 999 is 142 times 7 and 5.
    for (int d = 0; d < 7; d++) {
      x.tide(d, 8);
      due("runs(1, 3) from DAY 999 with RISE 8 on day " + d, x.runs(1, 3), d == 5 ? 4 : 0);
      x.tide(d, 4);
    }
  }

  private static void fillsAndCosts() {
    int[] plain = {1, 2, 3, 4, 5, 6, 7, 8, 9};
    int[] piano = {2, 4, 6, 8, 10, 12, 14, 16, 18};
    int[] father = {1, 1, 2, 2, 3, 3, 4, 4, 5};
    int[] self = {2, 2, 3, 3, 4, 4, 5, 5, 6};
    terms("FILLS by KIND, of ROOM: plain SIZE", () -> fills(0, plain));
    terms("piano twice that of a plain one", () -> fills(1, piano));
    terms("father half of that of a plain one (up)", () -> fills(2, father));
    terms("self 1 more than a father. COSTS", () -> fills(3, self));
    terms("COSTS by KIND, of SORROW: plain WORTH", () -> costs(0, 0, 1, 9));
    terms("piano as a plain one", () -> costs(1, 0, 1, 9));
    terms("father three times that of a plain one", () -> costs(2, 0, 3, 27));
    terms("self 1 more than a father. THE TAPE", () -> costs(3, 1, 4, 28));
  }

  private static void fills(int kind, int[] fills) {
    ArkTerrace x = told("house 1 9 0;plain 0 1 1;");
    x.alter(0, 0, kind);
    for (int size = 1; size <= 9; size++) {
      x.alter(0, 1, size);
      due("what KIND " + kind + " of SIZE " + size + " FILLS", x.thing(0, 5), fills[size - 1]);
    }
  }

  private static void costs(int kind, int ofNothing, int ofOne, int ofNine) {
    int[] worth = {0, 1, 9};
    int[] cost = {ofNothing, ofOne, ofNine};
    for (int k = 0; k < 3; k++) {
      ArkTerrace x = told("house 0 9 0;plain 0 1 " + worth[k] + ";rise 0 5;");
      x.alter(0, 0, kind);
      due("what KIND " + kind + " of WORTH " + worth[k] + " COSTS", x.thing(0, 6), cost[k]);
      due("SORROW when it is LOST", x.days(1), cost[k]);
    }
  }

  // ---- the tape, tokens, faults

  private static void theTape() {
    terms("THE TAPE has 160 bytes, places from 0.", () -> {
      ArkTerrace x = new ArkTerrace();
      for (int k = 1; k <= 160; k++) due("feed(32)", x.feed(' '), k);
      due("feed(32)", x.feed(' '), FULL);
      faulty("%", 0, 1);
      faulty(" ".repeat(159) + "%", 159, 1);
      faulty(" ".repeat(159) + "%;", 159, 1);
      taken(" ".repeat(160) + "%", 0);
    });
    terms("TOKENS, each as long as may be", () -> {
      faulty("winds 4;", 0, 2);
      faulty("housewind 4;", 0, 2);
      faulty("wind 12;", 5, 3);
      faulty("rise 12;", 5, 3);
      due("house(0, 0)", taken("house 12 34 1;", 1).house(0, 0), 12);
    });
    terms("any number of blanks (32) ahead of, between, behind them", () -> {
      ArkTerrace x = taken("     house    11     22   3    ;        wind    8   ;       ", 2);
      due("house(0, 0)", x.house(0, 0), 11);
      due("house(0, 1)", x.house(0, 1), 22);
      due("house(0, 2)", x.house(0, 2), 3);
      due("rule(5)", x.rule(5), 8);
      taken(" ".repeat(160), 0);
      taken(" ".repeat(153) + "wind 4;", 1);
      taken("wind 4;" + " ".repeat(153), 1);
      taken("wind" + " ".repeat(154) + "4;", 1);
      faulty("wind\t4;", 4, 1);
    });
    terms("(one at least between two NAMES, between two NUMBERS; else none is needed)", () -> {
      ArkTerrace x = taken("house1 2 3;plain0 4 5;rise6 7;wind8;level9;", 5);
      due("house(0, 2)", x.house(0, 2), 3);
      due("thing(0, 3)", x.thing(0, 3), 5);
      due("rise(6)", x.rise(6), 7);
      due("rule(5)", x.rule(5), 8);
      due("rule(3)", x.rule(3), 9);
      faulty("house12 3;", 9, 2);
      faulty("house 1 23;", 10, 2);
      faulty("wind4wind5;", 5, 2);
      faulty("windwind 5;", 0, 2);
    });
    terms("NUMBERS (1 or 2 figures)", () -> {
      ArkTerrace x = taken("house 01 00 03;wind 08;", 2);
      due("house(0, 0)", x.house(0, 0), 1);
      due("house(0, 1)", x.house(0, 1), 0);
      due("house(0, 2)", x.house(0, 2), 3);
      due("rule(5)", x.rule(5), 8);
      faulty("wind 004;", 5, 1);
      faulty("house 100 1 1;", 6, 1);
      faulty("house 1 0000000000001 1;", 8, 1);
    });
    terms("the sign ; (every other byte is no TOKEN)", () -> {
      for (int c = 0; c < 128; c++) {
        boolean token = c == ' ' || c == ';' || c >= '0' && c <= '9' || c >= 'a' && c <= 'z';
        if (!token) {
          faulty((char) c + "wind 4;", 0, 1);
          faulty("wind 4;" + (char) c, 7, 1);
          faulty("wind 4 " + (char) c, 7, 1);
        }
      }
    });
  }

  private static void lines() {
    terms("text: { line }", () -> {
      due("rule(0) by a text of no line", taken("", 0).rule(0), 0);
      taken("wind 4;", 1);
      taken("wind 4;rise 0 4;rise 1 4;rise 2 4;rise 3 4;rise 4 4;rise 5 4;rise 6 4;level 0;house 0 0 0;", 10);
    });
    terms("line: house N N N ;", () -> {
      faulty("house;", 5, 2);
      faulty("house 1 1;", 9, 2);
      faulty("house 1 1 1 1;", 12, 2);
      faulty("house 1 1 1", 11, 2);
    });
    terms("K N N N ; | rise N N ;", () -> {
      faulty("self 0 1;", 8, 2);
      faulty("self 0 1 1 1;", 11, 2);
      faulty("self 0 1 1 house", 11, 2);
      faulty("rise 1;", 6, 2);
      faulty("rise 1 1 1;", 9, 2);
    });
    terms("wind N ; | level N ;", () -> {
      faulty("wind;", 4, 2);
      faulty("wind 1 1;", 7, 2);
      faulty("level ;", 6, 2);
      faulty("level 1 1;", 8, 2);
    });
    terms("K: plain | piano | father | self", () -> {
      taken("house 0 0 0;plain 0 1 1;piano 0 1 1;father 0 1 1;self 0 1 1;", 5);
      for (String name : new String[] {"plai", "plains", "pianos", "fathe", "sel", "selfs", "mother", "a", "z"}) faulty(name + " 0 1 1;", 0, 2);
      for (String name : new String[] {"house", "plain", "piano", "father", "self", "rise", "wind", "level"}) {
        for (int k = 0; k < name.length(); k++) {
          // The letter next to it, which no other name has there.
          char next = (char) (name.charAt(k) == 'z' ? 'y' : name.charAt(k) + 1);
          faulty(name.substring(0, k) + next + name.substring(k + 1) + " 0 1 1;", 0, 2);
        }
      }
    });
    terms("house: a HOUSE more: HEIGHT, ROOM, LEAK.", () -> {
      ArkTerrace x = taken("house 20 40 3;house 0 0 0;", 2);
      int[] most = {20, 40, 3};
      for (int what = 0; what < 3; what++) {
        due("house(0, " + what + ")", x.house(0, what), most[what]);
        due("house(1, " + what + ")", x.house(1, what), 0);
      }
    });
    terms("K: a THING more of that KIND: HOUSE (0 to 3), SIZE, WORTH.", () -> {
      ArkTerrace x = taken("plain 3 9 9;plain 0 1 0;" + "house 1 1 1;".repeat(4), 6);
      due("thing(0, 1)", x.thing(0, 1), 3);
      due("thing(1, 1)", x.thing(1, 1), 0);
      faulty("plain 4 1 1;", 6, 3);
      faulty("self 99 1 1;", 5, 3);
    });
    terms("rise: a day of the week (0 to 6), RISE.", () -> {
      ArkTerrace x = taken("rise 0 0;rise 6 8;", 2);
      due("rise(0)", x.rise(0), 0);
      due("rise(6)", x.rise(6), 8);
      faulty("rise 7 0;", 5, 3);
      faulty("rise 0 9;", 7, 3);
    });
    terms("wind: WIND. level: LEVEL.", () -> {
      due("rule(5)", taken("wind 0;", 1).rule(5), 0);
      due("rule(5)", taken("wind 8;", 1).rule(5), 8);
      due("rule(3)", taken("level 20;", 1).rule(3), 20);
    });
  }

  private static void faults() {
    terms("the first met as it is read (a TOKEN is read when the one before has been taken)", EdgesOfTermsTest::theFirstFault);
    terms("1 no TOKEN, a NUMBER that is too long (its first byte).", () -> {
      faulty("  Wind 4;", 2, 1);
      faulty("wind 4;%", 7, 1);
      faulty("wind 123;", 5, 1);
      faulty("wind  1234567890;", 6, 1);
      faulty("123", 0, 1);
      faulty("wind 4 123", 7, 1);
    });
    terms("2 a TOKEN that can not stand there (a NAME that begins no line; or the end: the length).", () -> {
      faulty(";", 0, 2);
      faulty("4;", 0, 2);
      faulty(" cat", 1, 2);
      faulty("wind 4;;", 7, 2);
      faulty("wind wind", 5, 2);
      faulty("wind", 4, 2);
      faulty("wind   ", 7, 2);
      faulty("wind 4", 6, 2);
      faulty("wind 4    ", 10, 2);
      faulty("wind" + " ".repeat(156), 160, 2);
    });
    terms("3 a NUMBER out of its bounds.", () -> {
      faulty("wind  9;", 6, 3);
      faulty("wind 99;", 5, 3);
      faulty("plain 0 0 1;", 8, 3);
      faulty("plain 0 00 1;", 8, 3);
      faulty("house 1 1 04;", 10, 3);
    });
    terms("4 wind, level for the second time (its NAME); a day of the week that is told already (it).", () -> {
      faulty("wind 4;level 1;wind 4;", 15, 4);
      faulty("level 0; level 0;", 9, 4);
      faulty("rise 0 4;rise 0 4;", 14, 4);
      faulty("rise 6 4;rise 5 4;rise  06 4;", 24, 4);
      taken("rise 0 4;rise 1 4;rise 2 4;rise 3 4;rise 4 4;rise 5 4;rise 6 4;", 7);
    });
    terms("5 the 5th house, the 9th THING (its NAME).", () -> {
      faulty("house 0 0 0;".repeat(4) + " house 0 0 0;", 49, 5);
      faulty("plain 0 1 1;".repeat(3) + "piano 0 1 1;".repeat(3) + "self 0 1 1;".repeat(2) + "  father 0 1 1;", 96, 5);
    });
    terms("Behind all (the length): 6 a HOUSE that there is not.", () -> {
      faulty("plain 0 1 1;", 12, 6);
      faulty("plain 0 1 1;   ", 15, 6);
      faulty("house 1 1 1;plain 1 1 1;", 24, 6);
      faulty("plain 3 1 1;" + "house 1 1 1;".repeat(3) + "wind 4;", 55, 6);
      faulty("house 1 1 1;plain 0 1 1;plain 1 1 1;plain 0 1 1;", 48, 6);
      faulty("plain 0 1 1;" + " ".repeat(148), 160, 6);
      taken("plain 0 1 1;house 1 1 1;", 2);
    });
    terms("A text that is taken tells all, in place of what there was (what no line tells is as at first); nothing is SEEN; IMAGES are gone; SHEETS stay.",
        EdgesOfTermsTest::aTextInPlaceOfAnother);
  }

  private static void theFirstFault() {
    faulty("% cat", 0, 1);
    faulty("cat %", 0, 2);
    faulty("wind %", 5, 1);
    faulty("wind cat %", 5, 2);
    faulty("wind 9 %", 5, 3);
    faulty("wind 9 123", 5, 3);
    faulty("wind 4 cat %", 7, 2);
    faulty("wind 4;wind %", 7, 4);
    faulty("wind 4;wind 9;", 7, 4);
    faulty("rise 1 4;rise 1 %", 14, 4);
    faulty("rise 1 4;rise 1;", 14, 4);
    faulty("house 1 1 1;".repeat(4) + "house %", 48, 5);
    faulty("plain 0 1 1;".repeat(8) + "plain", 96, 5);
    faulty("plain 0 1 1;cat", 12, 2);
    faulty("plain 0 1 1;wind 9;", 17, 3);
    faulty("plain 0 1 1;house 1 1 1", 23, 2);
    // A line that is not whole tells nothing yet.
    faulty("wind 4 wind 4;", 7, 2);
  }

  private static void aTextInPlaceOfAnother() {
    ArkTerrace x = told("house 0 9 1;house 1 9 1;plain 0 1 5;plain 1 2 6;level 3;wind 7;rise 0 6;rise 6 1;");
    x.sheet(0, 1, 2);
    x.lay(0, 1, 1);
    x.stow(0);
    x.keep(0);
    x.keep(1);
    x.days(2);
    x.see(0, 6);
    // What was asked ahead of a text, and a text with a FAULT, leave nothing in it.
    due("runs(20, 1)", x.runs(20, 1), 3);
    due("lost(0)", x.lost(0), 7);
    Sentences.feedAll(x, "house 9 9 3;plain 0 1 1;wind 8;level 9;rise 3 8;cat");
    due("text() with a FAULT", x.text(), -10 - 48);
    due("text() of no line", x.text(), 0);
    for (int what = 0; what < 9; what++) due("rule(" + what + ")", x.rule(what), what == 5 ? 4 : 0);
    for (int d = 0; d < 7; d++) due("rise(" + d + ")", x.rise(d), 4);
    due("house(0, 0)", x.house(0, 0), BAD);
    due("thing(0, 0)", x.thing(0, 0), BAD);
    due("nothing is SEEN", x.count(0), 0);
    due("IMAGES", x.count(1), 0);
    due("back(0)", x.back(0), STATE);
    due("back(1)", x.back(1), STATE);
    due("SHEET 0", x.count(3), 2);
    Sentences.feedAll(x, "house 9 9 0;plain 0 1 1;plain 0 2 1;");
    x.text();
    due("read(0, 1, 1, 1) of what was laid", x.read(0, 1, 1, 1), 1);
    due("rule(7)", x.rule(7), 2);
    asAtFirstBehindAnAnswer();
  }

  private static void asAtFirstBehindAnAnswer() {
    ArkTerrace x = told("house 0 9 0;house 0 0 0;plain 0 1 5;plain 1 2 6;level 3;");
    x.stow(0);
    due("runs(5, 0)", x.runs(5, 0), 6);
    Sentences.feedAll(x, "house 0 9 0;house 0 9 0;plain 0 1 5;plain 1 2 6;");
    due("text()", x.text(), 4);
    int[] rule = {2, 2, 0, 0, 0, 4, 0, 0, 0};
    for (int what = 0; what < 9; what++) due("rule(" + what + ") behind runs() and text()", x.rule(what), rule[what]);
  }

  // ---- a day

  private static void aDay() {
    terms("A DAY: LEVEL is more by RISE less 4 (0 to 20).", () -> {
      ArkTerrace x = told("level 18;rise 0 8;rise 1 3;rise 2 7;rise 3 0;");
      int[] level = {20, 19, 20, 16};
      for (int d = 0; d < 4; d++) {
        x.days(1);
        due("LEVEL behind DAY " + d, x.rule(3), level[d]);
      }
      x = told("level 2;rise 0 0;rise 1 5;rise 2 3;rise 3 3;rise 4 8;");
      level = new int[] {0, 1, 0, 0, 4};
      for (int d = 0; d < 5; d++) {
        x.days(1);
        due("LEVEL behind DAY " + d, x.rule(3), level[d]);
      }
    });
    terms("is LEVEL above HEIGHT, and its ARK not AFLOAT, all THINGS of it that are OUT are LOST, its ARK is AFLOAT", EdgesOfTermsTest::itFloats);
    terms("is LEVEL HEIGHT or less, it is not AFLOAT.", () -> {
      ArkTerrace x = told("house 3 9 1;house 2 9 1;house 4 9 1;level 9;rise 1 0;rise 2 3;rise 3 3;rise 4 3;");
      // LEVEL is 9, 5, 4, 3, 2.
      int[] afloat = {7, 7, 3, 2, 0};
      int[] room = {8, 7, 6, 6, 6};
      for (int d = 0; d < 5; d++) {
        x.days(1);
        due("ARKS AFLOAT behind DAY " + d, x.rule(6), afloat[d]);
        due("ROOM of the first behind DAY " + d, x.house(0, 1), room[d]);
      }
    });
    terms("Is it AFLOAT then: its ROOM is less by LEAK (0 at least)", () -> {
      ArkTerrace x = told("house 0 7 3;house 0 7 0;house 20 7 3;rise 0 8;");
      int[] room = {4, 1, 0, 0};
      for (int d = 0; d < 4; d++) {
        x.days(1);
        due("ROOM behind DAY " + d, x.house(0, 1), room[d]);
        due("ROOM without a LEAK behind DAY " + d, x.house(1, 1), 7);
        due("ROOM of what is not AFLOAT behind DAY " + d, x.house(2, 1), 7);
      }
    });
    terms("as long as THINGS IN it FILL more than ROOM, the last of them by order is LOST", () -> {
      ArkTerrace x = told("house 0 9 3;house 20 9 0;plain 0 2 1;plain 0 2 2;plain 0 2 4;plain 1 9 8;rise 0 8;");
      for (int i = 0; i < 4; i++) x.stow(i);
      due("ROOM 6, they FILL 6", x.days(1), 0);
      due("ROOM 3, two are LOST", x.days(1), 4 + 2);
      due("rule(8)", x.rule(8), 6);
      due("ROOM 0, the first is LOST", x.days(1), 1);
      due("an empty ARK", x.days(1), 0);
      due("the other's stays IN", x.rule(7), 8);
    });
    terms("PLACE is more by WIND less 4 (0 to 99).", EdgesOfTermsTest::placesHaveEnds);
    terms("What is LOST makes SORROW more by what it COSTS (999 at most).", () -> {
      // No run comes to 999: eight selves of the greatest WORTH are the most that can be LOST.
      ArkTerrace x = told("house 0 9 0;" + "self 0 1 9;".repeat(8) + "rise 0 8;");
      due("days(1)", x.days(1), 224);
      due("SORROW", x.rule(4), 224);
      due("days(30)", x.days(30), 0);
      due("SORROW", x.rule(4), 224);
    });
    terms("DAY is 1 more.", () -> {
      ArkTerrace x = told("");
      int[] days = {0, 1, 30, 0, 29};
      int[] day = {0, 1, 31, 31, 60};
      for (int k = 0; k < 5; k++) {
        x.days(days[k]);
        due("DAY", x.rule(2), day[k]);
      }
    });
    terms("BY DAYS: as it would be from now on.", () -> {
      ArkTerrace x = told("rise 6 6;rise 0 8;");
      x.days(6);
      x.tide(0, 5);
      due("LEVEL now", x.runs(0, 3), 4);
      due("LEVEL behind day 6 of the week", x.runs(1, 3), 6);
      due("LEVEL behind day 0 of the next", x.runs(2, 3), 7);
      due("DAY", x.rule(2), 6);
    });
  }

  private static void itFloats() {
    ArkTerrace x = told("house 3 9 0;house 4 9 0;plain 0 1 1;plain 0 1 2;plain 1 1 4;plain 0 1 8;rise 0 7;rise 1 5;rise 2 5;rise 3 0;");
    x.stow(1);
    due("LEVEL 3 is not above 3", x.days(1), 0);
    due("AFLOAT", x.rule(6), 0);
    due("LEVEL 4 is above 3, not above 4", x.days(1), 1 + 8);
    due("AFLOAT", x.rule(6), 1);
    due("LOST", x.rule(8), 9);
    due("LEVEL 5 is above 4", x.days(1), 4);
    due("AFLOAT", x.rule(6), 3);
    due("LOST", x.rule(8), 13);
    due("IN", x.rule(7), 2);
    due("LEVEL 1", x.days(1), 0);
    due("fetch(1)", x.fetch(1), 9);
    x.tide(4, 8);
    due("LEVEL 5: it is AFLOAT anew", x.days(1), 2);
    due("LOST", x.rule(8), 15);
    x = told("house 0 9 3;house 20 9 0;plain 0 6 9;plain 1 1 1;rise 0 8;");
    x.stow(0);
    x.days(1);
    due("swap(1, 0)", x.swap(1, 0), 1);
    due("swap(1, 1): what comes OUT to an ARK that is AFLOAT is not LOST", x.swap(1, 1), 0);
  }

  private static void placesHaveEnds() {
    ArkTerrace x = told("house 0 9 0;house 0 9 0;house 20 9 0;level 9;");
    x.build(0, 3, 96);
    x.build(1, 3, 3);
    int[] wind = {7, 8, 3, 0, 0, 0};
    int[] first = {99, 99, 98, 94, 90, 86};
    int[] second = {6, 10, 9, 5, 1, 0};
    for (int d = 0; d < 6; d++) {
      x.blow(wind[d]);
      x.days(1);
      due("PLACE from 96 on, DAY " + d, x.house(0, 3), first[d]);
      due("PLACE from 3 on, DAY " + d, x.house(1, 3), second[d]);
      due("PLACE of what is not AFLOAT, DAY " + d, x.house(2, 3), 50);
    }
    x.blow(5);
    x.days(1);
    due("PLACE from 0 on", x.house(1, 3), 1);
  }

  // ---- what is seen, sheets

  private static void seen() {
    terms("SEEN (6): behind n DAYS (0 to 20) from how it stands when that is asked of (not from see() on) SORROW is v.", () -> {
      ArkTerrace x = told("house 0 9 0;plain 0 1 2;rise 0 4;rise 1 8;");
      due("see(21, 0)", x.see(21, 0), BAD);
      due("see(1, 2)", x.see(1, 2), 1);
      due("kinds(0): it is not LOST behind a DAY", x.kinds(0), 0);
      x.days(1);
      due("kinds(0) from DAY 1 on: plain, piano", x.kinds(0), 3);
      x.days(1);
      due("kinds(0) when it is LOST", x.kinds(0), 15);
      for (int k = 2; k <= 6; k++) due("see(20, 2)", x.see(20, 2), k);
      due("kinds(0) behind 20 DAYS", x.kinds(0), 15);
      due("see(20, 2)", x.see(20, 2), FULL);
    });
  }

  private static void sheets() {
    terms("SHEETS 0 to 3 are rows of BYTES (lane 0), SHORTS (1), INTS (2), all with a sign, with 0 to 40 CELLS, or nothing (at first).", () -> {
      ArkTerrace x = told("house 9 40 0;plain 0 1 1;plain 0 1 1;");
      for (int k = 0; k < 4; k++) due("lay(" + k + ", 0, 0) of nothing", x.lay(k, 0, 0), -11);
      due("count(3) of nothing", x.count(3), NONE);
      for (int k = 0; k < 4; k++) {
        for (int lane = 0; lane < 3; lane++) {
          due("sheet(" + k + ", " + lane + ", 0)", x.sheet(k, lane, 0), 1);
          due("lay(" + k + ", 0, 0)", x.lay(k, 0, 0), -12);
          due("sheet(" + k + ", " + lane + ", 40)", x.sheet(k, lane, 40), 1);
          due("lay(" + k + ", 39, 1)", x.lay(k, 39, 1), 1);
          due("read(" + k + ", " + lane + ", 39, 1)", x.read(k, lane, 39, 1), 1);
          due("rule(7)", x.rule(7), 2);
          x.fetch(1);
          due("sheet(" + k + ", " + lane + ", 41)", x.sheet(k, lane, 41), BAD);
        }
      }
      // What is negative is no THING; it is the highest bit of a lane that makes it so.
      int[] highest = {128, 32768, MIN};
      for (int lane = 0; lane < 3; lane++) {
        x.sheet(0, lane, 1);
        x.lay(0, 0, highest[lane]);
        due("read of the highest bit of lane " + lane, x.read(0, lane, 0, 1), -20);
        x.lay(0, 0, -1);
        due("read of -1 of lane " + lane, x.read(0, lane, 0, 1), -20);
      }
    });
    terms("A FAULT is what the machine finds: 1 NULL (nothing), 2 INDEX, 3 CAST (another lane), 4 SIZE (below 0).", () -> {
      ArkTerrace x = told("house 9 40 0;plain 0 1 1;");
      due("read(0, 0, 0, 1) of nothing", x.read(0, 0, 0, 1), 0);
      due("torn()", x.torn(), 1);
      due("lay(0, 0, 0) of nothing", x.lay(0, 0, 0), -11);
      x.sheet(0, 1, 1);
      due("read(0, 1, 1, 1)", x.read(0, 1, 1, 1), 0);
      due("torn()", x.torn(), 2);
      due("lay(0, 1, 0)", x.lay(0, 1, 0), -12);
      due("read(0, 0, 0, 1) of lane 1", x.read(0, 0, 0, 1), 0);
      due("torn()", x.torn(), 3);
      due("read(0, 2, 0, 1) of lane 1", x.read(0, 2, 0, 1), 0);
      due("torn()", x.torn(), 3);
      due("sheet(0, 1, -1)", x.sheet(0, 1, -1), -14);
      due("sheet(0, 1, MIN)", x.sheet(0, 1, MIN), -14);
    });
  }

  public static void main(String[] args) throws Exception {
    answers();
    houses();
    things();
    theWeek();
    fillsAndCosts();
    theTape();
    lines();
    faults();
    aDay();
    seen();
    sheets();
    Sentences.finish(Sentences.TERMS, Sentences.TERMS);
  }
}
