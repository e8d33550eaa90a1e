import java.io.IOException;
import java.nio.file.Files;
import java.nio.file.Path;
import java.util.ArrayList;
import java.util.List;
import java.util.regex.Matcher;
import java.util.regex.Pattern;

/** Sentences of the document that name an edge, each with a test of its own. */
final class Sentences {
  static final int BAD = -1, STATE = -2, FULL = -3, NONE = -4;
  static final int MIN = Integer.MIN_VALUE, MAX = Integer.MAX_VALUE;
  /** The number of what stands under "Terms", where a promise has its own. */
  static final int TERMS = 0;

  private static final Path DOCUMENT = Path.of("../shared/DOC.md");
  private static final Pattern EDGE = Pattern.compile(
      "BAD|STATE|FULL|NONE|\\d+ (to|at least|at most|at first|or 2)\\b|\\bor (less|more)\\b|-\\d+ less|\\b0 on\\b|too\\b");
  private static final List<Object[]> quotes = new ArrayList<>();
  private static String here = "";
  private static int asked = 0;
  private static int wrong = 0;

  private Sentences() {
  }

  static void sentence(int promise, String words, Runnable test) {
    here = (promise == TERMS ? "Terms" : "promise " + promise) + ", \"" + words + "\"";
    quotes.add(new Object[] {promise, words});
    int before = asked;
    try {
      test.run();
    } catch (RuntimeException e) {
      tell("ended with " + e);
    }
    if (asked == before) tell("nothing was asked");
  }

  static void due(String call, long got, long want) {
    asked++;
    if (got != want) tell(call + " answered " + got + ", due is " + want);
  }

  private static void tell(String what) {
    wrong++;
    System.out.println(here + ": " + what);
  }

  static void feedAll(ArkTerrace x, String text) {
    for (int k = 0; k < text.length(); k++) x.feed(text.charAt(k));
  }

  static ArkTerrace told(String text) {
    ArkTerrace x = new ArkTerrace();
    feedAll(x, text);
    int lines = x.text();
    if (lines < 0) tell("text() of '" + text + "' answered " + lines);
    return x;
  }

  /** A text that is taken, told to one that has been told something else. */
  static ArkTerrace taken(String text, int lines) {
    ArkTerrace x = told("house 3 4 1;wind 7;");
    feedAll(x, text);
    due("text() of '" + text + "'", x.text(), lines);
    due("fault() of '" + text + "'", x.fault(), 0);
    return x;
  }

  static void faulty(String text, int place, int fault) {
    ArkTerrace x = told("house 3 4 1;wind 7;");
    feedAll(x, text);
    due("text() of '" + text + "'", x.text(), -10 - place);
    due("fault() of '" + text + "'", x.fault(), fault);
  }

  /** Numbers below least and above most, next to them and far off, some of whose lowest bits are within. */
  static int[] beyond(int least, int most) {
    return new int[] {least - 1, most + 1, least - 256, (1 << 16) + least, MIN, MAX};
  }

  /** Whether each quote stands in the document, and each edge that a promise names is within a quote. */
  private static void compareWithDocument(int first, int last) throws IOException {
    if (!Files.exists(DOCUMENT)) {
      System.out.println("there is no " + DOCUMENT + " to compare with");
      return;
    }
    String document = Files.readString(DOCUMENT).replaceAll("\\s+", " ");
    for (int promise = first; promise <= last; promise++) {
      here = promise == TERMS ? "Terms" : "promise " + promise;
      String part = partOf(document, promise);
      boolean[] quoted = new boolean[part.length()];
      for (Object[] quote : quotes)
        if ((int) quote[0] == promise) mark(part, (String) quote[1], quoted);
      Matcher edge = EDGE.matcher(part);
      while (edge.find())
        if (!quoted[edge.start()])
          tell("no test of '" + part.substring(Math.max(0, edge.start() - 30), Math.min(part.length(), edge.end() + 30)) + "'");
    }
  }

  private static void mark(String part, String words, boolean[] quoted) {
    int at = part.indexOf(words);
    if (at < 0) tell("these words are not in the document: " + words);
    for (; at >= 0; at = part.indexOf(words, at + 1))
      for (int k = 0; k < words.length(); k++) quoted[at + k] = true;
  }

  private static String partOf(String document, int promise) {
    String head = promise == TERMS ? "## Terms" : "## Promise " + promise + ":";
    String next = promise == 43 ? "## Not promised" : "## Promise " + (promise + 1) + ":";
    int from = document.indexOf(head);
    int to = document.indexOf(next);
    if (from >= 0 && to > from) return document.substring(from, to);
    tell("the document has no such part");
    return "";
  }

  static void finish(int first, int last) throws IOException {
    compareWithDocument(first, last);
    System.out.println(quotes.size() + " sentences, " + asked + " answers, " + wrong + " not as due");
    if (wrong != 0) System.exit(1);
  }
}
