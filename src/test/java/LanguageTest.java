import java.lang.reflect.Field;
import java.lang.reflect.Method;
import java.lang.reflect.Modifier;
import java.nio.file.Files;
import java.nio.file.Path;
import java.util.Arrays;
import java.util.List;
import java.util.Set;
import java.util.TreeSet;
import java.util.regex.Matcher;
import java.util.regex.Pattern;

/** The face of the document, and those rules of LANGUAGE.md that can be seen in the text or in the class. */
public final class LanguageTest {
  private static final String FACE =
      "int supply(int,int);int size(int,int);int pipe(int,int,int);int head(int,int,int);"
      + "int open(int,boolean);int shut(int,boolean);int clog(int,int);int resize(int,int);long conduct(int,int);"
      + "long pressure(int,int);long flow(int,int);long total(int);int about(int,int);int worst();int heap();"
      + "int put(int,int,boolean);long least(int);int thinnest();int free(int,boolean);long choose();long bill();"
      + "int margin(int);int floor(int,int);int cell(int,int,int);int stand(int,int,int,int);int lift(int);"
      + "int wets(int,int,int);int dry(int);int near(int);int told(int)";
  private static final Set<String> LIBRARY = Set.of("Arrays.fill", "Arrays.copyOf", "Arrays.copyOfRange", "List.of",
      "System.arraycopy");
  private static final Set<String> IMPORTS = Set.of("java.util.Arrays", "java.util.ArrayList", "java.util.List",
      "java.util.Iterator");
  private static final Set<Class<?>> CONSTANTS = Set.of(int.class, long.class, boolean.class, char.class, String.class,
      int[].class, long[].class, char[].class, byte[].class);
  private static int wrong = 0;

  private static void must(boolean holds, String rule) {
    if (holds) return;
    wrong++;
    System.out.println("not as due: " + rule);
  }

  private static String signature(Method m) {
    StringBuilder s = new StringBuilder(m.getReturnType().getName()).append(' ').append(m.getName()).append('(');
    Class<?>[] types = m.getParameterTypes();
    for (int i = 0; i < types.length; i++) s.append(i == 0 ? "" : ",").append(types[i].getName());
    return s.append(')').toString();
  }

  private static void face() {
    Class<?> house = SprinklerHouse.class;
    must(Modifier.isPublic(house.getModifiers()) && Modifier.isFinal(house.getModifiers()), "public and final");
    must(house.getDeclaredConstructors().length == 1 && house.getConstructors().length == 1, "one public constructor");
    Set<String> due = new TreeSet<>(Arrays.asList(FACE.split(";"))), seen = new TreeSet<>(), names = new TreeSet<>();
    for (Method m : house.getDeclaredMethods())
      if (!Modifier.isPrivate(m.getModifiers())) { seen.add(signature(m)); names.add(m.getName()); }
    must(due.equals(seen), "the methods " + due + ", but there are " + seen);
    Set<String> constants = new TreeSet<>();
    for (Field f : house.getDeclaredFields())
      if (!Modifier.isPrivate(f.getModifiers())) constants.add(f.getName());
    must(constants.equals(new TreeSet<>(List.of("UNKNOWN", "OUTSIDE", "STATE", "FULL", "NO", "NONE", "LOST"))),
        "the constants, but there are " + constants);
    inside(house, names);
    for (Class<?> c : house.getDeclaredClasses()) {
      must(Modifier.isStatic(c.getModifiers()) && !Modifier.isPublic(c.getModifiers()), c + " static, not public");
      inside(c, names);
    }
    must(house.getDeclaredClasses().length <= 11, "at most twelve classes");
  }

  private static void inside(Class<?> c, Set<String> publicNames) {
    int fields = 0;
    for (Field f : c.getDeclaredFields()) {
      if (!Modifier.isStatic(f.getModifiers())) fields++;
      else must(Modifier.isFinal(f.getModifiers()) && isConstant(f.getType()), f + " a constant");
    }
    must(fields <= 20, c + " at most twenty fields");
    for (Method m : c.getDeclaredMethods()) {
      must(m.getParameterCount() <= 7, m + " at most seven parameters");
      must(Modifier.isPublic(m.getModifiers()) || !publicNames.contains(m.getName()), m + " another name");
    }
  }

  private static boolean isConstant(Class<?> type) {
    return CONSTANTS.contains(type) || type.isEnum() || type.isArray() && type.getComponentType().isEnum();
  }

  /** Math, Integer and Long are allowed but for what ends in Exact or is no function of the arguments alone. */
  private static boolean isAllowed(String call) {
    String owner = call.substring(0, call.indexOf('.'));
    for (Class<?> c : SprinklerHouse.class.getDeclaredClasses()) if (c.getSimpleName().equals(owner)) return true;
    return LIBRARY.contains(call) || Set.of("Math", "Integer", "Long").contains(owner) && !call.equals("Math.random");
  }

  private static void text() throws Exception {
    String text = Files.readString(Path.of("src/main/java/SprinklerHouse.java"));
    String code = text.replaceAll("(?s)/\\*.*?\\*/", "").replaceAll("//[^\n]*", "");
    String[] words = {"package", "throw", "throws", "try", "catch", "finally", "synchronized", "assert", "protected",
        "volatile", "native", "hashCode", "NaN"};
    for (String word : words) must(!Pattern.compile("\\b" + word + "\\b").matcher(code).find(), "no word " + word);
    for (String sign : new String[] {"::", "Exact("}) must(!code.contains(sign), "no sign " + sign);
    must(!Pattern.compile("(?m)^(?!\\s*(case|default)\\b).*->").matcher(code).find(), "no lambda");
    must(!Pattern.compile("\\bstatic\\s*\\{").matcher(code).find(), "no static block");
    Matcher calls = Pattern.compile("\\b[A-Z]\\w*[a-z]\\w*\\.\\w+").matcher(code.replaceAll("import [^\n]*", ""));
    while (calls.find()) must(isAllowed(calls.group()), calls.group() + " a call that the rules allow");
    must(text.chars().allMatch(c -> c < 256), "characters 0 to 255");
    Matcher imports = Pattern.compile("import ([^;]*);").matcher(code);
    while (imports.find()) must(IMPORTS.contains(imports.group(1)), imports.group(1) + " an import");
  }

  public static void main(String[] args) throws Exception {
    face();
    text();
    System.out.println(wrong == 0 ? "the face and the rules are kept" : wrong + " rules are not kept");
    if (wrong != 0) System.exit(1);
  }
}
