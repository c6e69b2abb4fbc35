import java.lang.reflect.Field;
import java.lang.reflect.Method;
import java.lang.reflect.Modifier;
import java.nio.file.Files;
import java.nio.file.Path;
import java.util.ArrayList;
import java.util.List;
import java.util.Set;
import java.util.TreeSet;
import java.util.regex.Matcher;
import java.util.regex.Pattern;

/** The face of the document, and those rules of LANGUAGE.md that can be looked up in the source. */
public final class LanguageTest {
  static final String FACE = "feed/5 end/1 dale/0 rule/0 force/1 keep/2 person/2 field/2 night/0 air/1 carry/2 "
      + "fetch/1 seat/2 undo/0 ahead/3 burns/1 full/1 placing/1 spring/2 apart/1 clash/1 silent/2 most/2 had/4 "
      + "rests/4 ring/1 pence/2 note/3 ruled/1 look/2 seed/1 frosts/4 count/1 image/1 back/1";
  static final List<String> wrong = new ArrayList<>();

  static void must(boolean holds, String what) { if (!holds) wrong.add(what); }

  static void face() {
    Set<String> found = new TreeSet<>();
    Set<String> names = new TreeSet<>();
    for (Method m : WinterKeep.class.getDeclaredMethods()) {
      if (Modifier.isPrivate(m.getModifiers()) || m.isSynthetic()) continue;
      must(Modifier.isPublic(m.getModifiers()) && m.getReturnType() == int.class, "rule 1: " + m);
      for (Class<?> type : m.getParameterTypes()) must(type == int.class, "rule 1: " + m);
      found.add(m.getName() + "/" + m.getParameterCount());
      names.add(m.getName());
    }
    must(found.equals(new TreeSet<>(List.of(FACE.split(" ")))), "rule 1: the face is " + found);
    for (Field f : WinterKeep.class.getDeclaredFields()) {
      must(Modifier.isPrivate(f.getModifiers()) || f.getName().equals("NONE"), "rule 1: " + f);
    }
    must(WinterKeep.class.getConstructors().length == 1, "rule 1: constructors");
    must(Modifier.isFinal(WinterKeep.class.getModifiers()), "rule 1: not final");
    List<Class<?>> all = new ArrayList<>(List.of(WinterKeep.class.getDeclaredClasses()));
    for (Class<?> c : all) must(Modifier.isStatic(c.getModifiers()), "rule 2: " + c + " is not static");
    must(all.size() + 1 <= 12, "rule 11: " + (all.size() + 1) + " classes");
    all.add(WinterKeep.class);
    for (Class<?> c : all) ofClass(c, names);
  }

  static void ofClass(Class<?> c, Set<String> names) {
    int fields = 0;
    for (Field f : c.getDeclaredFields()) {
      if (Modifier.isStatic(f.getModifiers())) must(Modifier.isFinal(f.getModifiers()), "rule 5: " + f);
      else fields++;
    }
    must(fields <= 20, "rule 11: " + c + " has " + fields + " fields");
    for (Method m : c.getDeclaredMethods()) {
      must(m.getParameterCount() <= 7, "rule 11: " + m);
      must(c == WinterKeep.class && Modifier.isPublic(m.getModifiers()) || !names.contains(m.getName()), "rule 1: " + m);
    }
  }

  static void source(String text) {
    for (String word : List.of("throw", "throws", "try", "catch", "finally", "synchronized", "assert", "yield",
        "protected", "native", "volatile", "hashCode", "toString", "Object", "System.out", "Random", "Thread")) {
      must(!Pattern.compile("\\b" + Pattern.quote(word) + "\\b").matcher(text).find(), "rules 4, 6, 13: " + word);
    }
    must(!text.contains("->") && !text.contains("::"), "rule 2: a lambda or a method reference");
    must(!text.contains("\npackage "), "a package");
    Matcher imports = Pattern.compile("import ([^;]*);").matcher(text);
    while (imports.find()) {
      must(List.of("java.util.Arrays", "java.util.ArrayList", "java.util.List").contains(imports.group(1)),
          "rule 4: " + imports.group());
    }
    Matcher library = Pattern.compile("\\b(Arrays|Math|Integer|Long|System)\\.(\\w+)").matcher(text);
    while (library.find()) {
      must(List.of("copyOf", "min", "max", "bitCount").contains(library.group(2)),
          "rule 4: " + library.group());
    }
  }

  static void lengths(String text) {
    String[] lines = text.split("\n", -1);
    for (int i = 0; i < lines.length; i++) {
      String indent = lines[i].replaceAll("\\S.*", "");
      if (!lines[i].endsWith("{") || !lines[i].contains("(") || indent.length() > 8 || lines[i].contains(" class ")) continue;
      if (lines[i].trim().matches("(if|for|while|switch|\\}).*")) continue;
      int end = i + 1;
      while (end < lines.length && !lines[end].equals(indent + "}")) end++;
      must(end - i + 1 <= 60, "rule 11: " + (end - i + 1) + " lines from line " + (i + 1));
    }
  }

  public static void main(String[] args) throws Exception {
    String text = Files.readString(Path.of("src/main/java/WinterKeep.java"));
    String bare = text.replaceAll("(?s)/\\*.*?\\*/", "").replaceAll("//[^\n]*", "").replaceAll("\"[^\"\n]*\"", "\"\"");
    face();
    source(bare);
    lengths(text);
    for (String w : wrong) System.out.println("LanguageTest: " + w);
    System.out.println("LanguageTest: " + wrong.size() + " rules are broken");
    if (!wrong.isEmpty()) System.exit(1);
  }
}
