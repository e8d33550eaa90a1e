import java.lang.reflect.Constructor;
import java.lang.reflect.Field;
import java.lang.reflect.Method;
import java.lang.reflect.Modifier;
import java.nio.file.Files;
import java.nio.file.Path;
import java.util.ArrayList;
import java.util.Arrays;
import java.util.HashSet;
import java.util.List;
import java.util.Map;
import java.util.Random;
import java.util.Set;
import java.util.TreeMap;
import java.util.TreeSet;
import java.util.regex.Matcher;
import java.util.regex.Pattern;

/** The public face, the rules of LANGUAGE.md that can be looked at from outside, and calls with any numbers at all. */
public final class FaceTest {
  private static final String FACE = "feed 1 end 1 text 0 fault 0 rule 1 house 2 thing 2 rise 1 build 3 alter 3 tide 2 "
      + "blow 1 stow 1 fetch 1 days 1 runs 2 ahead 3 lost 1 meet 2 pack 2 need 2 high 2 leak 2 swap 2 save 2 kind 3 "
      + "luck 4 mean 3 see 2 forget 1 kinds 1 leaks 1 rooms 1 ask 2 drift 3 keep 1 back 1 sheet 3 lay 3 read 4 torn 0 count 1";
  /** What LANGUAGE.md, rule 4, leaves of the library, as far as the class uses it. */
  private static final Set<String> LIBRARY = Set.of("Arrays.fill", "System.arraycopy", "Math.max", "Math.min",
      "Math.floorMod", "Integer.bitCount");
  private static final Set<String> KEYWORDS = Set.of("if", "for", "while", "switch", "return");
  private static int wrong = 0;

  private static void holds(String what, boolean so) {
    if (!so) {
      wrong++;
      System.out.println("does not hold: " + what);
    }
  }

  private static void face() {
    Class<?> c = ArkTerrace.class;
    holds("public and final", Modifier.isPublic(c.getModifiers()) && Modifier.isFinal(c.getModifiers()));
    String[] face = FACE.split(" ");
    Set<String> due = new TreeSet<>();
    Set<String> names = new HashSet<>();
    for (int k = 0; k < face.length; k += 2) {
      String result = face[k].equals("luck") || face[k].equals("mean") ? "long " : "int ";
      due.add(result + face[k] + " " + face[k + 1]);
      names.add(face[k]);
    }
    Set<String> got = new TreeSet<>();
    for (Method m : c.getDeclaredMethods()) {
      if (m.isSynthetic()) continue;
      if (Modifier.isPrivate(m.getModifiers())) {
        holds("a private method has a name of its own: " + m.getName(), !names.contains(m.getName()));
        continue;
      }
      holds("public, of ints: " + m, Modifier.isPublic(m.getModifiers()) && !Modifier.isStatic(m.getModifiers())
          && Arrays.stream(m.getParameterTypes()).allMatch(p -> p == int.class));
      got.add(m.getReturnType() + " " + m.getName() + " " + m.getParameterCount());
    }
    holds("the methods are those of the document: " + got, got.equals(due));
    Constructor<?>[] made = c.getDeclaredConstructors();
    holds("one public constructor", made.length == 1 && Modifier.isPublic(made[0].getModifiers())
        && made[0].getParameterCount() == 0);
    Set<String> open = new TreeSet<>();
    for (Field f : c.getDeclaredFields()) {
      if (!Modifier.isPrivate(f.getModifiers())) open.add(f.getName());
      holds("static fields are final: " + f, !Modifier.isStatic(f.getModifiers()) || Modifier.isFinal(f.getModifiers()));
    }
    holds("the constants are those of the document", open.equals(new TreeSet<>(List.of("BAD", "STATE", "FULL", "NONE"))));
    holds("their values", ArkTerrace.BAD == -1 && ArkTerrace.STATE == -2 && ArkTerrace.FULL == -3 && ArkTerrace.NONE == -4);
    inside(c, names);
  }

  private static void inside(Class<?> c, Set<String> names) {
    holds("some twelve classes", c.getDeclaredClasses().length <= 11);
    for (Class<?> n : c.getDeclaredClasses()) {
      holds("static, not public: " + n, Modifier.isStatic(n.getModifiers()) && !Modifier.isPublic(n.getModifiers()));
      long fields = Arrays.stream(n.getDeclaredFields()).filter(f -> !Modifier.isStatic(f.getModifiers())).count();
      holds("some twenty fields: " + n, fields <= 20);
      for (Method m : n.getDeclaredMethods()) {
        holds("at most seven parameters: " + m, m.getParameterCount() <= 7);
        holds("a name of its own: " + m, !names.contains(m.getName()));
      }
    }
  }

  private static void source() throws Exception {
    String source = Files.readString(Path.of("src/main/java/ArkTerrace.java"));
    String code = source.replaceAll("(?s)/\\*.*?\\*/", "").replaceAll("//[^\n]*", "");
    for (String word : "throw throws try catch synchronized assert finally package double float Object Integer.valueOf".split(" "))
      holds("no " + word, !Pattern.compile("\\b" + Pattern.quote(word) + "\\b").matcher(code).find());
    holds("no lambda, no method reference", !code.contains("->") && !code.contains("::"));
    Matcher imports = Pattern.compile("(?m)^import (.*);").matcher(code);
    while (imports.find()) holds("import " + imports.group(1), imports.group(1).equals("java.util.Arrays"));
    Matcher library = Pattern.compile("\\b([A-Z][a-z]+\\.[a-z]\\w*)\\(").matcher(code);
    while (library.find()) holds("the library: " + library.group(1), LIBRARY.contains(library.group(1)));
    holds("arrays of one dimension", !code.contains("[][]"));
    holds("nothing of an object is handed out as it is made",
        !Pattern.compile("new [A-Z]\\w*\\([^)]|\\bthis\\b").matcher(code).find());
    holds("plain signs alone", source.chars().allMatch(c -> c == '\n' || c >= 32 && c < 127));
    int from = 0;
    String[] lines = source.split("\n");
    for (int k = 0; k < lines.length; k++) {
      if (lines[k].matches(" {4,8}[a-zA-Z].*\\) \\{")) from = k;
      if (lines[k].matches(" {4,8}\\}")) holds("a short method at line " + (from + 1), k - from < 60);
    }
  }

  /** The bodies of the methods by their names; two of one name (in two classes) are taken as one. */
  private static Map<String, String> bodies(String code) {
    Map<String, String> bodies = new TreeMap<>();
    Matcher method = Pattern.compile("(?ms)^( {4}| {8})(?:private |public |static |final )*[\\w\\[\\]]+ (\\w+)\\([^()]*\\) \\{\n(.*?)^\\1\\}")
        .matcher(code);
    while (method.find()) bodies.merge(method.group(2), method.group(3), String::concat);
    return bodies;
  }

  /** How many calls stand open at once at the most, the library's own counted, this one too. */
  private static int depth(String name, Map<String, String> bodies, List<String> open) {
    if (open.contains(name)) {
      holds("no recursion: " + open + " " + name, false);
      return 0;
    }
    List<String> way = new ArrayList<>(open);
    way.add(name);
    int most = 0;
    Matcher call = Pattern.compile("\\b(\\w+)\\(").matcher(bodies.getOrDefault(name, ""));
    while (call.find())
      if (!KEYWORDS.contains(call.group(1))) most = Math.max(most, depth(call.group(1), bodies, way));
    holds("calls go at most eight deep: " + way, way.size() <= 8);
    return most + 1;
  }

  private static void callsInCalls() throws Exception {
    String source = Files.readString(Path.of("src/main/java/ArkTerrace.java"));
    Map<String, String> bodies = bodies(source.replaceAll("//[^\n]*", ""));
    String[] face = FACE.split(" ");
    int deepest = 0;
    for (int k = 0; k < face.length; k += 2) {
      holds("a body of " + face[k], bodies.containsKey(face[k]));
      deepest = Math.max(deepest, depth(face[k], bodies, List.of()));
    }
    holds("the chain from ask() to what a thing costs is seen: " + deepest, deepest >= 5);
  }

  private static int wild(Random random) {
    switch (random.nextInt(5)) {
      case 0: return random.nextInt();
      case 1: return List.of(Integer.MIN_VALUE, Integer.MAX_VALUE, -1, 1 << 16, 1000, 999, 160, 128, 127, 61, 60, 41, 40).get(random.nextInt(13));
      default: return random.nextInt(9);
    }
  }

  /** No call may throw, whatever the numbers and the state. */
  private static void anyNumbers() throws Exception {
    Random random = new Random(7);
    String[] texts = {"house 0 9 1;house 3 30 0;plain 0 3 4;self 1 2 9;piano 0 1 1;father 1 9 9;rise 0 8;rise 3 0;wind 8;",
        "house 20 40 3;", "", "level 20;house 0 0 3;house 0 40 3;house 0 1 0;house 1 1 1;plain 3 9 9;rise 1 0;"};
    Method[] calls = Arrays.stream(ArkTerrace.class.getDeclaredMethods())
        .filter(m -> Modifier.isPublic(m.getModifiers())).sorted((a, b) -> a.getName().compareTo(b.getName()))
        .toArray(Method[]::new);
    for (int run = 0; run < 300; run++) {
      ArkTerrace x = new ArkTerrace();
      for (char c : texts[run % texts.length].toCharArray()) x.feed(c);
      x.text();
      for (int k = 0; k < 300; k++) {
        Method m = calls[random.nextInt(calls.length)];
        Object[] args = new Object[m.getParameterCount()];
        for (int a = 0; a < args.length; a++) args[a] = wild(random);
        try {
          m.invoke(x, args);
        } catch (java.lang.reflect.InvocationTargetException e) {
          holds(m.getName() + Arrays.toString(args) + " ends without " + e.getCause(), false);
        }
      }
    }
  }

  public static void main(String[] args) throws Exception {
    face();
    source();
    callsInCalls();
    anyNumbers();
    System.out.println(wrong == 0 ? "the face and the rules hold" : wrong + " do not hold");
    if (wrong != 0) System.exit(1);
  }
}
