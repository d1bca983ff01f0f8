import java.io.IOException;
import java.lang.reflect.Constructor;
import java.lang.reflect.Field;
import java.lang.reflect.Method;
import java.lang.reflect.Modifier;
import java.nio.file.Files;
import java.nio.file.Path;
import java.util.Arrays;
import java.util.Set;
import java.util.TreeSet;
import java.util.regex.Matcher;
import java.util.regex.Pattern;

/** The face of the class, and those rules of LANGUAGE.md that can be seen from its text and its members. */
public final class RulesTest {
  private static final String[] FACE = {
    "int type(int,int)", "int wipe(int)", "int undo(int)", "int fault(int)", "int person(int,int)",
    "int place(int,int)", "int go(int,int,int)", "int back()", "int read(int)", "int where(int,int)",
    "int bright(int,int)", "int crowd(int,int)", "long sky(int,int,int)", "int met(int)", "int spoilt(int)",
    "int lightning(int)", "int settles()", "int send(int,int,int)", "int keep(int,int,int,int)",
    "int row(int,int,int)", "int seen(int,int,int)", "int fog(int,int,int)", "int forget(int)", "int may(int)",
    "int hid()", "long news(int,int,int,int)", "int roof(int,int,int)", "int day(int,int)",
    "int sheet(int,int,int)", "int lose(int)", "int lay(int,int,int,int)", "int get(int,int,int)",
    "int copy(int,int,int,int,int)", "int write(int,int)", "int count(int)", "long digest()"};
  private static final String[] FORBIDDEN = {
    "\\bthrow\\b", "\\btry\\b", "\\bcatch\\b", "\\bsynchronized\\b", "\\bassert\\b", "\\bimport\\b", "\\bpackage\\b",
    "->", "::", "\\bvar\\b", "Exact\\b", "\\bprotected\\b", "\\bvolatile\\b", "\\btransient\\b", "\\bnative\\b",
    "\\bstatic\\s*\\{", "Integer\\.MIN", "Integer\\.MAX", "Long\\.MIN", "Long\\.MAX", "\\bObject\\b", "\\bSystem\\.(?!arraycopy)"};
  private static int wrong = 0;

  private static void must(boolean holds, String what) {
    if (!holds) {
      wrong++;
      System.out.println("not so: " + what);
    }
  }

  public static void main(String[] args) throws IOException {
    String text = Files.readString(Path.of("src/main/java/OwnWeather.java"));
    face();
    classesInside();
    words(text);
    lengths(text);
    System.out.println(wrong == 0 ? "the face and the rules hold" : wrong + " rules do not hold");
    if (wrong != 0) System.exit(1);
  }

  private static void face() {
    Class<?> c = OwnWeather.class;
    must(Modifier.isPublic(c.getModifiers()) && Modifier.isFinal(c.getModifiers()), "the class is public and final");
    Set<String> due = new TreeSet<>(Arrays.asList(FACE)), found = new TreeSet<>();
    for (Method m : c.getDeclaredMethods()) {
      if (Modifier.isPrivate(m.getModifiers())) continue;
      must(Modifier.isPublic(m.getModifiers()) && !Modifier.isStatic(m.getModifiers()), m + " is public");
      found.add(signature(m));
    }
    must(found.equals(due), "the methods are " + due + ", found are " + found);
    for (Constructor<?> k : c.getDeclaredConstructors())
      must(Modifier.isPublic(k.getModifiers()) && k.getParameterCount() == 0, "the constructor is as told");
    Set<String> constants = new TreeSet<>();
    for (Field f : c.getDeclaredFields()) {
      if (!Modifier.isPrivate(f.getModifiers())) constants.add(Modifier.toString(f.getModifiers()) + " " + f.getName());
      if (Modifier.isStatic(f.getModifiers())) must(Modifier.isFinal(f.getModifiers()), f + " is final");
    }
    must(constants.equals(new TreeSet<>(Arrays.asList("public static final NONE", "public static final BAD",
        "public static final NOT", "public static final FULL"))), "the constants are as told: " + constants);
    must(OwnWeather.NONE == -1 && OwnWeather.BAD == -2 && OwnWeather.NOT == -3 && OwnWeather.FULL == -4, "their values");
  }

  private static String signature(Method m) {
    StringBuilder s = new StringBuilder(m.getReturnType().toString()).append(' ').append(m.getName()).append('(');
    for (int i = 0; i < m.getParameterCount(); i++) s.append(i == 0 ? "" : ",").append(m.getParameterTypes()[i]);
    return s.append(')').toString();
  }

  private static void classesInside() {
    Set<String> names = new TreeSet<>();
    for (String f : FACE) names.add(f.substring(f.indexOf(' ') + 1, f.indexOf('(')));
    must(OwnWeather.class.getDeclaredClasses().length < 12, "at most some twelve classes");
    hidden(OwnWeather.class, names);
    for (Class<?> c : OwnWeather.class.getDeclaredClasses()) {
      must(Modifier.isStatic(c.getModifiers()) && !Modifier.isPublic(c.getModifiers()), c + " is static and not public");
      hidden(c, names);
    }
  }

  private static void hidden(Class<?> c, Set<String> names) {
    int fields = 0;
    for (Field f : c.getDeclaredFields()) {
      if (Modifier.isStatic(f.getModifiers())) must(Modifier.isFinal(f.getModifiers()), f + " is final");
      else fields++;
    }
    must(fields <= 20, c + " has at most some twenty fields");
    for (Method m : c.getDeclaredMethods()) {
      must(m.getParameterCount() <= 7, m + " takes at most seven");
      boolean isFace = c == OwnWeather.class && Modifier.isPublic(m.getModifiers());
      must(isFace || !names.contains(m.getName()), m + " bears no name of the face");
    }
  }

  private static void words(String text) {
    String code = text.replaceAll("(?s)/\\*.*?\\*/", "").replaceAll("//[^\n]*", "");
    for (String f : FORBIDDEN) must(!Pattern.compile(f).matcher(code).find(), "no " + f + " in it");
    for (char b : text.toCharArray()) must(b == '\n' || b >= 32 && b < 127, "plain signs only, found " + (int) b);
    Matcher library = Pattern.compile("\\b(Integer|Long|Math|Arrays|System)\\.(\\w+)").matcher(code);
    Set<String> may = Set.of("bitCount", "max", "min", "abs", "compare", "arraycopy", "fill", "copyOf", "floorMod", "floorDiv");
    while (library.find()) must(may.contains(library.group(2)), library.group() + " is in the library that is left");
  }

  private static void lengths(String text) {
    int since = -1, number = 0;
    String indent = "";
    for (String line : text.split("\n")) {
      number++;
      Matcher m = Pattern.compile("^( +)[\\w\\[\\]<> ]+\\([^;=]*\\) \\{$").matcher(line);
      if (since < 0 && m.find() && !line.trim().matches("(if|for|while|switch|return|else)\\b.*")) {
        since = number;
        indent = m.group(1);
      } else if (since >= 0 && line.equals(indent + "}")) {
        must(number - since < 60, "the method at line " + since + " is short");
        since = -1;
      }
    }
    must(since < 0, "every method's end is found");
  }
}
