import java.lang.reflect.Method;
import java.nio.file.Files;
import java.nio.file.Path;
import java.util.HashMap;
import java.util.Map;
import java.util.regex.Matcher;
import java.util.regex.Pattern;

/** What README.md shows: its examples, all of one house, answer what stands behind them, and it names every call. */
public final class ReadmeTest {
  private static final Pattern BLOCK = Pattern.compile("(?s)```java\n(.*?)```");
  private static final Pattern LINE =
      Pattern.compile("(?:int (\\w+) = )?house\\.(\\w+)\\((.*?)\\); +// ([-\\w]+)(:.*)?");
  private static final String FIRST = "SprinklerHouse house = new SprinklerHouse();";

  private static final Ledger LEDGER = new Ledger();
  private static final Map<String, Long> NAMES = new HashMap<>();

  private static void example(House house, String line) {
    Matcher m = LINE.matcher(line);
    if (!m.matches()) throw new IllegalStateException("not of the form of an example: " + line);
    LEDGER.sentence("README.md", line);
    String[] words = m.group(3).split(", *");
    for (int i = 0; i < words.length; i++)
      if (NAMES.containsKey(words[i])) words[i] = NAMES.get(words[i]).toString();
    String call = m.group(2) + "(" + String.join(", ", words) + ")";
    LEDGER.go(house, call + " = " + m.group(4));
    if (m.group(1) != null) NAMES.put(m.group(1), Long.parseLong(m.group(4)));
  }

  public static void main(String[] args) throws Exception {
    String text = Files.readString(Path.of("README.md"));
    House house = new House();
    Matcher blocks = BLOCK.matcher(text);
    while (blocks.find())
      for (String line : blocks.group(1).split("\n"))
        if (!line.equals(FIRST)) example(house, line);
    LEDGER.sentence("README.md", "All calls");
    for (Method m : SprinklerHouse.class.getMethods())
      if (m.getDeclaringClass() == SprinklerHouse.class)
        LEDGER.due(m.getName() + " is named", text.contains("`" + m.getName() + "`") ? 1 : 0, 1);
    LEDGER.end();
  }
}
