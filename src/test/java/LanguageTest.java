import java.io.IOException;
import java.lang.management.ManagementFactory;
import java.lang.reflect.Constructor;
import java.lang.reflect.Field;
import java.lang.reflect.Method;
import java.lang.reflect.Modifier;
import java.nio.file.Files;
import java.nio.file.Path;
import java.util.ArrayList;
import java.util.List;
import java.util.Random;
import java.util.Set;
import java.util.TreeSet;
import java.util.regex.Matcher;
import java.util.regex.Pattern;

/** Rules of LANGUAGE.md that can be seen from the source, from the class, or from what calls leave in the room. */
final class LanguageTest {
  private static final String FACE = "knife ofKnife change become as gains turn set feed text law visit days loose then"
      + " thenPurse often dear still least line hand seed voice trace sheet put move knives image restore tell check"
      + " count told";
  private static final String[] UNWANTED = {
    "\\bthrow\\b", "\\bthrows\\b", "\\btry\\b", "\\bcatch\\b", "\\bsynchronized\\b", "\\bassert\\b", "\\bimport\\b",
    "\\bpackage\\b", "\\bprotected\\b", "\\bdefault\\s*->", "->", "::", "\\w+Exact\\b", "\\bstatic\\s*\\{", "\\bnative\\b",
    "\\bvolatile\\b", "\\bequals\\b", "\\bhashCode\\b", "\\btoString\\b", "System\\.(?!arraycopy\\b)", "\\bvar\\b",
    "\\byield\\b", "@", "\\bThread\\b", "\\bwhile\\s*\\(\\s*true\\s*\\)", "for\\s*\\(\\s*;\\s*;"};

  public static void main(String[] args) throws IOException {
    String source = Files.readString(Path.of("src/main/java/KnifeDoors.java"));
    words(source);
    lengths(source);
    face();
    inside();
    room();
    Due.end();
  }

  private static void words(String source) {
    for (char sign : source.toCharArray()) {
      if (sign > 126) Due.due("a sign of the source", sign, 0);
    }
    String code = source.replaceAll("(?s)/\\*.*?\\*/", " ").replaceAll("//[^\n]*", " ");
    code = code.replaceAll("\"[^\"\n]*\"", "\"\"").replaceAll("'(\\\\.|[^'])'", "' '");
    for (String unwanted : UNWANTED) {
      Matcher m = Pattern.compile(unwanted).matcher(code);
      Due.due("rule 6: " + unwanted, m.find() ? 1 : 0, 0);
    }
  }

  /** Methods and inner parts end with a brace as far in as they begin. */
  private static void lengths(String source) {
    String[] lines = source.split("\n");
    for (int i = 0; i < lines.length; i++) {
      Matcher m = Pattern.compile("^( {2}| {4})(?! |private static final class).*\\) \\{$").matcher(lines[i]);
      if (!m.find()) continue;
      String ending = m.group(1) + "}";
      int end = i;
      while (end < lines.length - 1 && !lines[end].equals(ending)) {
        end++;
      }
      Due.due("rule 11: line " + (i + 1) + " begins what is too long", end - i > 60 ? 1 : 0, 0);
    }
  }

  private static void face() {
    Set<String> due = new TreeSet<>(List.of(FACE.split(" ")));
    Set<String> are = new TreeSet<>();
    for (Method m : KnifeDoors.class.getDeclaredMethods()) {
      if (m.isSynthetic()) continue;
      boolean isPublic = Modifier.isPublic(m.getModifiers());
      if (isPublic) are.add(m.getName());
      if (!isPublic) {
        Due.due("rule 1: " + m, Modifier.isPrivate(m.getModifiers()) && !due.contains(m.getName()) ? 1 : 0, 1);
      }
    }
    Due.due("rule 1: the face", are.equals(due) ? 1 : 0, 1);
    for (Field f : KnifeDoors.class.getDeclaredFields()) {
      Due.due("rule 1: " + f, Modifier.isPrivate(f.getModifiers()) ? 1 : 0, 1);
    }
    Constructor<?>[] made = KnifeDoors.class.getDeclaredConstructors();
    Due.due("rule 1: constructors", made.length, 1);
    Due.due("rule 1: public and final", KnifeDoors.class.getModifiers(), Modifier.PUBLIC | Modifier.FINAL);
  }

  private static void inside() {
    List<Class<?>> classes = new ArrayList<>(List.of(KnifeDoors.class.getDeclaredClasses()));
    Due.due("rule 11: twelve classes", classes.size() <= 11 ? 1 : 0, 1);
    classes.add(KnifeDoors.class);
    for (Class<?> c : classes) {
      int fields = 0;
      for (Field f : c.getDeclaredFields()) {
        boolean isStatic = Modifier.isStatic(f.getModifiers());
        if (isStatic) Due.due("rule 5: " + f, Modifier.isFinal(f.getModifiers()) ? 1 : 0, 1);
        if (!isStatic) fields++;
      }
      Due.due("rule 11: fields of " + c, fields <= 20 ? 1 : 0, 1);
      Due.due("rule 2: " + c, c == KnifeDoors.class || Modifier.isStatic(c.getModifiers()) ? 1 : 0, 1);
      for (Method m : c.getDeclaredMethods()) {
        Due.due("rule 11: parameters of " + m, m.getParameterCount() <= 7 ? 1 : 0, 1);
      }
    }
  }

  /** Rows are made in the constructor and used again: calls leave nothing in the room. */
  private static void room() {
    com.sun.management.ThreadMXBean threads = (com.sun.management.ThreadMXBean) ManagementFactory.getThreadMXBean();
    calls(new KnifeDoors());
    KnifeDoors x = new KnifeDoors();
    long before = threads.getCurrentThreadAllocatedBytes();
    calls(x);
    long left = threads.getCurrentThreadAllocatedBytes() - before;
    Due.due("room: bytes that calls leave (" + left + ")", left < 2000 ? 1 : 0, 1);
    before = threads.getCurrentThreadAllocatedBytes();
    new KnifeDoors().count(0);
    left = threads.getCurrentThreadAllocatedBytes() - before;
    Due.due("room: bytes of a new object (" + left + ")", left < 20000 ? 1 : 0, 1);
  }

  private static void calls(KnifeDoors x) {
    Random random = new Random(3);
    for (int i = 0; i < 8; i++) {
      x.knife(random.nextInt(70), random.nextInt(6), 10 * random.nextInt(4) + random.nextInt(4));
    }
    for (int i = 0; i < 20; i++) {
      x.feed('s' + ('<' << 8) + ('9' << 16), 3);
      x.text(0);
      x.feed('b' + ('+' << 8) + ('n' << 16), 2 + i % 2);
      x.text(1);
      x.law(1, 1, 2, 3, 4);
      x.then(400, i % 8, 3);
      x.often(100);
      x.dear(100);
      x.still(i % 8, 400);
      x.least(i % 8, 70, 0);
      x.hand(i % 8, 60, 200, -1);
      x.voice(i % 8, 3, i);
      x.sheet(i % 4, 8, 40);
      x.knives(i % 4);
      x.image();
      x.loose(9);
      x.restore();
      x.tell(60);
      x.check(0);
    }
  }
}
