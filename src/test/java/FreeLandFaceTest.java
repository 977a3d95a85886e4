import java.lang.reflect.Constructor;
import java.lang.reflect.Field;
import java.lang.reflect.Method;
import java.lang.reflect.Modifier;
import java.nio.file.Files;
import java.nio.file.Path;
import java.util.Arrays;
import java.util.Set;
import java.util.TreeSet;
import java.util.regex.Matcher;
import java.util.regex.Pattern;

/** The face is the document's and no more, and the source keeps to what of LANGUAGE.md a scan can see. */
public final class FreeLandFaceTest {
  private static final String[] FACE = {
    "int person(int,int)", "int map(int)", "int feed(int,long)", "int law(int)", "int place()", "int sets(int,int)",
    "int lawOf(int)", "int line(int,int,int,int,int)", "int strike(int,boolean)", "int told(int,int)",
    "int outcome(int,int)", "int count(int)", "int holds(int,int,int,int)", "int holdings(int,int)",
    "int digest(int)", "int corner(int,int,int,int)", "int lose(int,int)", "int lies(int,int,int)", "long area(int)"};
  private static final String[] CONSTANTS = {"NONE", "UNKNOWN", "OUTSIDE", "NOT", "FULL"};
  private static final String[] BANNED = {
    "throw", "throws", "try", "catch", "synchronized", "assert", "import", "package", "protected", "native", "volatile",
    "transient", "Object", "Exception", "Thread", "hashCode", "toString", "getClass", "Random", "System\\.(?!arraycopy)\\w+",
    "\\w+Exact"};

  private static int wrong = 0;

  private static void due(String what, Object got, Object want) {
    if (got.equals(want)) return;
    wrong++;
    System.out.println(what + " is " + got + ", due is " + want);
  }

  private static String listed(Class<?>[] types) {
    StringBuilder list = new StringBuilder();
    for (Class<?> type : types) list.append(list.length() == 0 ? "" : ",").append(type.getSimpleName());
    return list.toString();
  }

  private static void face() {
    Class<?> it = FreeLand.class;
    due("the class", Modifier.toString(it.getModifiers()), "public final");
    Set<String> methods = new TreeSet<>();
    Set<String> names = new TreeSet<>();
    for (Method m : it.getDeclaredMethods()) {
      if (Modifier.isPrivate(m.getModifiers())) continue;
      due(m.getName(), Modifier.toString(m.getModifiers()), "public");
      methods.add(m.getReturnType() + " " + m.getName() + "(" + listed(m.getParameterTypes()) + ")");
      names.add(m.getName());
    }
    due("the methods", methods, new TreeSet<>(Arrays.asList(FACE)));
    Set<String> constants = new TreeSet<>();
    for (Field f : it.getDeclaredFields()) {
      if (Modifier.isPrivate(f.getModifiers())) continue;
      due(f.getName(), Modifier.toString(f.getModifiers()) + " " + f.getType(), "public static final int");
      constants.add(f.getName());
    }
    due("the constants", constants, new TreeSet<>(Arrays.asList(CONSTANTS)));
    for (Constructor<?> c : it.getDeclaredConstructors()) {
      due("the constructor", Modifier.toString(c.getModifiers()) + listed(c.getParameterTypes()), "public");
    }
    inside(it, names);
  }

  private static void inside(Class<?> it, Set<String> names) {
    privateNames(it, names);
    for (Class<?> c : it.getDeclaredClasses()) {
      due(c.getName() + " is static", Modifier.isStatic(c.getModifiers()), true);
      due(c.getName() + " is hidden", (c.getModifiers() & (Modifier.PUBLIC | Modifier.PROTECTED)) == 0, true);
      privateNames(c, names);
      int fields = 0;
      for (Field f : c.getDeclaredFields()) {
        if (Modifier.isStatic(f.getModifiers())) due(c.getName() + "." + f.getName() + " is final", Modifier.isFinal(f.getModifiers()), true);
        else fields++;
      }
      due(c.getName() + " has some twenty fields at most", fields <= 20, true);
    }
  }

  private static void privateNames(Class<?> it, Set<String> names) {
    for (Method m : it.getDeclaredMethods()) {
      if (Modifier.isPrivate(m.getModifiers())) due(it.getName() + "." + m.getName() + " bears a public name", names.contains(m.getName()), false);
      due(it.getName() + "." + m.getName() + " has seven parameters at most", m.getParameterCount() <= 7, true);
    }
  }

  private static void source() throws Exception {
    String code = Files.readString(Path.of("src/main/java/FreeLand.java"));
    for (char c : code.toCharArray()) {
      if (c > 126) due("a sign of the source", (int) c, 126);
    }
    code = code.replaceAll("(?s)/\\*.*?\\*/", "").replaceAll("//[^\n]*", "").replaceAll("\"[^\"\n]*\"", "\"\"");
    for (String word : BANNED) {
      Matcher found = Pattern.compile("\\b" + word + "\\b").matcher(code);
      if (found.find()) due("a word of the source", found.group(), "one that LANGUAGE.md leaves");
    }
    due("lambdas and method references", code.contains("->") || code.contains("::"), false);
    methodsAreShort(code);
  }

  private static void methodsAreShort(String code) {
    String[] lines = code.split("\n");
    int began = 0;
    for (int at = 0; at < lines.length; at++) {
      if (lines[at].matches("( {2}| {4})[a-z][^=;]*\\) \\{")) began = at;
      if (lines[at].matches(" {2}\\}| {4}\\}") && at - began > 60 && began > 0) due("lines of the method at " + began, at - began, 60);
      if (lines[at].matches(" {2}\\}| {4}\\}")) began = 0;
    }
  }

  public static void main(String[] args) throws Exception {
    face();
    source();
    System.out.println(wrong == 0 ? "the face is the document's" : wrong + " things are not as due");
    if (wrong != 0) System.exit(1);
  }
}
