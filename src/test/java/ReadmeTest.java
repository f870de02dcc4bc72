import java.lang.reflect.Method;
import java.lang.reflect.Modifier;
import java.nio.file.Files;
import java.nio.file.Path;
import java.util.ArrayList;
import java.util.HashMap;
import java.util.List;
import java.util.Map;
import java.util.regex.Matcher;
import java.util.regex.Pattern;

/** README.md: its example answers as it says, and no call and no test is left out of it. */
public final class ReadmeTest {
  private static final Path README = Path.of("README.md");
  private static final Path SOURCE = Path.of("src/main/java/PlayPool.java");
  private static final Path TESTS = Path.of("src/test/java");

  // The document's headings of the groups, and how many calls stand behind each.
  private static final String[] GROUPS = {"Recordings and rights", "Listeners and plays",
      "What is asked", "What would be (nothing is changed)"};
  private static final int[] CALLS = {6, 6, 10, 4};

  private static final String GROUP_START = "  // ---- ";
  private static final Pattern EXAMPLE =
      Pattern.compile("(?:int (\\w+) = )?house\\.(\\w+)\\((.*)\\);\\s*// (-?\\d+): .*");
  private static final Pattern HEAD =
      Pattern.compile("  public \\w+ (\\w+)\\(([^)]*)\\).*");

  private static final Checks is = new Checks();

  public static void main(String[] args) throws Exception {
    List<String> readme = Files.readAllLines(README);
    example(readme);
    calls(readme);
    tests(String.join("\n", readme));
    is.end("README.md");
  }

  private static void example(List<String> readme) throws Exception {
    PlayPool house = new PlayPool();
    Map<String, Integer> known = new HashMap<>();
    int made = 0;
    for (String line : readme) {
      Matcher found = EXAMPLE.matcher(line);
      if (found.matches()) {
        int answer = (Integer) answerOf(house, found.group(2), found.group(3), known);
        is.eq(line, answer, Integer.parseInt(found.group(4)));
        if (found.group(1) != null) {
          known.put(found.group(1), answer);
        }
        made++;
      }
    }
    is.note(made >= 8, "only " + made + " calls of the example were made");
  }

  private static Object answerOf(PlayPool house, String name, String arguments,
      Map<String, Integer> known) throws Exception {
    String[] words = arguments.split(", ");
    Object[] values = new Object[words.length];
    for (int i = 0; i < words.length; i++) {
      values[i] = known.containsKey(words[i]) ? known.get(words[i]) : Integer.valueOf(words[i]);
    }
    for (Method method : PlayPool.class.getMethods()) {
      if (method.getName().equals(name)) {
        return method.invoke(house, values);
      }
    }
    throw new IllegalStateException("README.md calls " + name + ", which is not there");
  }

  private static void calls(List<String> readme) throws Exception {
    List<String> inReadme = new ArrayList<>();
    String group = "";
    for (String line : readme) {
      if (line.startsWith("#")) {
        group = line.replaceFirst("#+ ", "");
      } else if (line.startsWith("| `")) {
        inReadme.add(group + ": " + line.split("`")[1]);
      }
    }
    is.eqLines("the calls in their groups", inReadme, callsInSource());
    is.eq("how many calls", inReadme.size(), publicMethods());
    for (int i = 0; i < GROUPS.length; i++) {
      String start = GROUPS[i] + ": ";
      is.eq(GROUPS[i], inReadme.stream().filter(c -> c.startsWith(start)).count(), CALLS[i]);
    }
  }

  // The source has the document's groups as comments, and its parameters' names.
  private static List<String> callsInSource() throws Exception {
    String text = Files.readString(SOURCE).replaceAll("\\s*\n\\s+throws ", " throws ");
    List<String> calls = new ArrayList<>();
    String group = "";
    for (String line : text.split("\n")) {
      Matcher head = HEAD.matcher(line);
      if (line.startsWith(GROUP_START)) {
        String title = line.substring(GROUP_START.length());
        group = title.substring(0, 1).toUpperCase() + title.substring(1);
      } else if (head.matches()) {
        String names = head.group(2).replaceAll("(int|boolean) ", "");
        calls.add(group + ": " + head.group(1) + "(" + names + ")");
      }
    }
    return calls;
  }

  private static int publicMethods() {
    int sum = 0;
    for (Method method : PlayPool.class.getDeclaredMethods()) {
      sum += Modifier.isPublic(method.getModifiers()) ? 1 : 0;
    }
    return sum;
  }

  private static void tests(String readme) throws Exception {
    try (var files = Files.list(TESTS)) {
      for (Path file : files.sorted().toList()) {
        String name = file.getFileName().toString().replace(".java", "");
        if (name.endsWith("Test")) {
          is.note(readme.contains("`" + name + "`"), "README.md does not tell of " + name);
        }
      }
    }
    is.note(readme.contains("`.ci/run`"), "README.md does not say how to run the tests");
  }
}
