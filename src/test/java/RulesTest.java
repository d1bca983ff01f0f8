import java.io.IOException;
import java.lang.management.ManagementFactory;
import java.lang.reflect.Constructor;
import java.lang.reflect.Field;
import java.lang.reflect.Method;
import java.lang.reflect.Modifier;
import java.nio.file.Files;
import java.nio.file.Path;
import java.util.Arrays;
import java.util.Map;
import java.util.Set;
import java.util.TreeMap;
import java.util.TreeSet;
import java.util.regex.Matcher;
import java.util.regex.Pattern;

/** The face of the class, and those rules of LANGUAGE.md that can be seen from its text and its members. */
public final class RulesTest {
  private static final String[] FACE = {
    "int type(int,int)", "int wipe(int)", "int undo(int)", "int fault(int)", "int person(int,int)",
    "int place(int,int)", "int go(int,int,int)", "int back()", "int read(int)", "int where(int,int)",
    "int bright(int,int)", "int crowd(int,int)", "long sky(int,int,int)", "int met(int)", "int spoilt(int)",
    "int lightning(int)", "int settles()", "int send(int,int,int)", "int keep(int,int,int,int)",
    "int row(int,int,int)", "int seen(int,int,int)", "int fog(int,int,int)", "int forget(int)", "int may(int)",
    "int hid()", "long news(int,int,int,int)", "int roof(int,int,int)", "int day(int,int)",
    "int sheet(int,int,int)", "int lose(int)", "int lay(int,int,int,int)", "int get(int,int,int)",
    "int copy(int,int,int,int,int)", "int write(int,int)", "int count(int)", "long digest()"};
  private static final String[] FORBIDDEN = {
    "\\bthrow\\b", "\\btry\\b", "\\bcatch\\b", "\\bsynchronized\\b", "\\bassert\\b", "\\bimport\\b", "\\bpackage\\b",
    "->", "::", "\\bvar\\b", "Exact\\b", "\\bprotected\\b", "\\bvolatile\\b", "\\btransient\\b", "\\bnative\\b",
    "\\bstatic\\s*\\{", "Integer\\.MIN", "Integer\\.MAX", "Long\\.MIN", "Long\\.MAX", "\\bObject\\b", "\\bSystem\\.(?!arraycopy)"};
  private static final String[] HEADINGS = {
    "people, places: type wipe undo fault person place go back read",
    "hours: where bright crowd sky met spoilt lightning settles", "plans: send keep row",
    "seen, fogs, news: seen fog forget may hid news roof day",
    "sheets: sheet lose lay get copy write count digest"};
  private static int wrong = 0;

  private static void must(boolean holds, String what) {
    if (!holds) {
      wrong++;
      System.out.println("not so: " + what);
    }
  }

  public static void main(String[] args) throws IOException {
    String text = Files.readString(Path.of("src/main/java/OwnWeather.java"));
    face();
    classesInside();
    words(text);
    headings(text);
    methods(text);
    rooms();
    System.out.println(wrong == 0 ? "the face and the rules hold" : wrong + " rules do not hold");
    if (wrong != 0) System.exit(1);
  }

  private static void face() {
    Class<?> c = OwnWeather.class;
    must(Modifier.isPublic(c.getModifiers()) && Modifier.isFinal(c.getModifiers()), "the class is public and final");
    Set<String> due = new TreeSet<>(Arrays.asList(FACE)), found = new TreeSet<>();
    for (Method m : c.getDeclaredMethods()) {
      if (Modifier.isPrivate(m.getModifiers())) continue;
      must(Modifier.isPublic(m.getModifiers()) && !Modifier.isStatic(m.getModifiers()), m + " is public");
      found.add(signature(m));
    }
    must(found.equals(due), "the methods are " + due + ", found are " + found);
    for (Constructor<?> k : c.getDeclaredConstructors())
      must(Modifier.isPublic(k.getModifiers()) && k.getParameterCount() == 0, "the constructor is as told");
    Set<String> constants = new TreeSet<>();
    for (Field f : c.getDeclaredFields()) {
      if (!Modifier.isPrivate(f.getModifiers())) constants.add(Modifier.toString(f.getModifiers()) + " " + f.getName());
      if (Modifier.isStatic(f.getModifiers())) must(Modifier.isFinal(f.getModifiers()), f + " is final");
    }
    must(constants.equals(new TreeSet<>(Arrays.asList("public static final NONE", "public static final BAD",
        "public static final NOT", "public static final FULL"))), "the constants are as told: " + constants);
    must(OwnWeather.NONE == -1 && OwnWeather.BAD == -2 && OwnWeather.NOT == -3 && OwnWeather.FULL == -4, "their values");
  }

  private static String signature(Method m) {
    StringBuilder s = new StringBuilder(m.getReturnType().toString()).append(' ').append(m.getName()).append('(');
    for (int i = 0; i < m.getParameterCount(); i++) s.append(i == 0 ? "" : ",").append(m.getParameterTypes()[i]);
    return s.append(')').toString();
  }

  private static Set<String> names() {
    Set<String> names = new TreeSet<>();
    for (String f : FACE) names.add(f.substring(f.indexOf(' ') + 1, f.indexOf('(')));
    return names;
  }

  private static void classesInside() {
    Set<String> names = names();
    must(OwnWeather.class.getDeclaredClasses().length < 12, "at most some twelve classes");
    hidden(OwnWeather.class, names);
    for (Class<?> c : OwnWeather.class.getDeclaredClasses()) {
      must(Modifier.isStatic(c.getModifiers()) && !Modifier.isPublic(c.getModifiers()), c + " is static and not public");
      hidden(c, names);
    }
  }

  private static void hidden(Class<?> c, Set<String> names) {
    int fields = 0;
    for (Field f : c.getDeclaredFields()) {
      if (Modifier.isStatic(f.getModifiers())) must(Modifier.isFinal(f.getModifiers()), f + " is final");
      else fields++;
    }
    must(fields <= 20, c + " has at most some twenty fields");
    for (Method m : c.getDeclaredMethods()) {
      must(m.getParameterCount() <= 7, m + " takes at most seven");
      boolean isFace = c == OwnWeather.class && Modifier.isPublic(m.getModifiers());
      must(isFace || !names.contains(m.getName()), m + " bears no name of the face");
    }
  }

  private static void words(String text) {
    String code = text.replaceAll("(?s)/\\*.*?\\*/", "").replaceAll("//[^\n]*", "");
    for (String f : FORBIDDEN) must(!Pattern.compile(f).matcher(code).find(), "no " + f + " in it");
    for (char b : text.toCharArray()) must(b == '\n' || b >= 32 && b < 127, "plain signs only, found " + (int) b);
    Matcher library = Pattern.compile("\\b(Integer|Long|Math|Arrays|System)\\.(\\w+)").matcher(code);
    Set<String> may = Set.of("bitCount", "max", "min", "abs", "compare", "arraycopy", "fill", "copyOf", "floorMod", "floorDiv");
    while (library.find()) must(may.contains(library.group(2)), library.group() + " is in the library that is left");
  }

  /** "Ahead of the calls .. the interface says: ---- people, places", and so on, each in the document's order. */
  private static void headings(String text) {
    StringBuilder found = new StringBuilder();
    Matcher m = Pattern.compile("// ---- ([a-z, ]+)\n|    public (?:int|long) (\\w+)\\(").matcher(text);
    while (m.find()) found.append(m.group(1) != null ? "\n" + m.group(1) + ":" : " " + m.group(2));
    for (String h : HEADINGS) must((found + "\n").contains("\n" + h + "\n"), "the calls stand under: " + h);
  }

  /** Each method's lines by its name; those of like names in several classes are taken together. */
  private static Map<String, String> bodies(String text) {
    Map<String, String> bodies = new TreeMap<>();
    String name = null, indent = "";
    int since = 0, number = 0;
    for (String line : text.split("\n")) {
      number++;
      Matcher m = Pattern.compile("^( +)[\\w\\[\\]<> ]*?(\\w+)\\([^;=]*\\) \\{$").matcher(line);
      if (name == null && m.find() && !m.group(2).matches("if|for|while|switch")) {
        name = m.group(2);
        indent = m.group(1);
        since = number;
      } else if (name != null && line.equals(indent + "}")) {
        must(number - since < 60, name + " is short");
        name = null;
      } else if (name != null) {
        bodies.merge(name, line + "\n", String::concat);
      }
    }
    must(name == null, "every method's end is found");
    return bodies;
  }

  private static void methods(String text) {
    Map<String, String> bodies = bodies(text.replaceAll("(?s)/\\*.*?\\*/", "").replaceAll("//[^\n]*", ""));
    must(bodies.keySet().containsAll(names()), "every method of the face is found");
    for (String name : bodies.keySet()) {
      must(depth(name, bodies, 1) <= 8, name + " goes at most eight calls deep");
      boolean isConstructor = Character.isUpperCase(name.charAt(0));
      must(isConstructor || !bodies.get(name).matches("(?s).*\\bnew\\b.*"), name + " makes no object");
    }
  }

  /** How many calls stand open at once; recursion would go on beyond the bound. */
  private static int depth(String name, Map<String, String> bodies, int open) {
    int deepest = 1;
    if (open > 20) return deepest;
    Matcher m = Pattern.compile("\\b(\\w+)\\(").matcher(bodies.get(name));
    Set<String> called = new TreeSet<>();
    while (m.find()) if (bodies.containsKey(m.group(1))) called.add(m.group(1));
    for (String next : called) deepest = Math.max(deepest, 1 + depth(next, bodies, open + 1));
    return deepest;
  }

  /** All calls of a run live in one room: what one object takes of it, when made and by 512 of its dearest calls. */
  private static void rooms() {
    com.sun.management.ThreadMXBean threads = (com.sun.management.ThreadMXBean) ManagementFactory.getThreadMXBean();
    long id = Thread.currentThread().getId();
    OwnWeather[] made = new OwnWeather[100];
    new OwnWeather().digest();
    long before = threads.getThreadAllocatedBytes(id);
    for (int k = 0; k < made.length; k++) made[k] = new OwnWeather();
    long each = (threads.getThreadAllocatedBytes(id) - before) / made.length;
    must(each < 10_000, "an object takes less than 10,000 bytes, not " + each);
    OwnWeather x = Acts.object();
    before = threads.getThreadAllocatedBytes(id);
    for (int k = 0; k < 50; k++) x.digest();
    long taken = threads.getThreadAllocatedBytes(id) - before;
    must(taken < 10_000, "a digest makes nothing, not " + taken + " bytes by 50 of them");
  }
}
