import java.lang.reflect.Executable;
import java.lang.reflect.Field;
import java.lang.reflect.Method;
import java.lang.reflect.Modifier;
import java.nio.file.Files;
import java.nio.file.Path;
import java.util.ArrayList;
import java.util.Arrays;
import java.util.HashMap;
import java.util.HashSet;
import java.util.List;
import java.util.Map;
import java.util.Set;
import java.util.regex.Matcher;
import java.util.regex.Pattern;

/** The public face, and those rules of LANGUAGE.md that can be seen by a plain look. */
public final class RulesTest {
  private static final String SOURCE = "src/main/java/PlayPool.java";

  private static final String[] FACE = {
    "PlayPool()",
    "double meanSeconds()",
    "int advance(int,int) Index Argument",
    "int alike(int,int) Index Argument",
    "int chart(int,int) Index Argument",
    "int claim(int,int,int) Index Argument",
    "int down(int,boolean) Index State",
    "int keep(int,int) Index State",
    "int listener(int,int) Index Argument State",
    "int many(int) Argument",
    "int next(int) Index",
    "int ofListener(int,int) Index Argument",
    "int ofParty(int,int) Index Argument",
    "int ofPlay(int,int) Index Argument",
    "int ofRecording(int,int) Index Argument",
    "int ofTrack(int,int) Index Argument",
    "int pass(int) Argument State",
    "int plan(int,int) Index Argument",
    "int play(int,int,int,int) Index Argument State",
    "int reasons(int) Index",
    "int rule(int) Argument",
    "int track(int) Index State",
    "int window(int,int,int,int) Index Argument State",
    "int wouldGet(int,int) Index Argument",
    "int wouldPay(int,int) Index Argument",
    "boolean flag(int,boolean) Index",
    "long digest()"
  };

  // Rules 2 to 6 and 13; an arrow may stand in a switch alone.
  private static final Pattern NOT_IN_IT = Pattern.compile("\\b(finally|synchronized|assert"
      + "|volatile|native|package|System\\.(?!arraycopy)\\w+|Random|NullPointerException"
      + "|ArrayIndexOutOfBounds\\w*|ClassCast\\w*|NegativeArraySize\\w*|ArrayStore\\w*"
      + "|getMessage|\\w+Exact)\\b|::|^(?!\\s*(case|default)\\b).*->");

  private static final String[] IMPORTS = {"java.util.Arrays", "java.util.ArrayList",
      "java.util.List", "java.util.Iterator", "java.util.NoSuchElementException"};

  private static final Pattern METHOD =
      Pattern.compile("(  |    )(?:public|private) (?:static )?[\\w\\[\\]]+ (\\w+)\\(.*");
  private static final Pattern CALLED = Pattern.compile("\\b(\\w+)\\(");
  private static final Pattern MADE_ONCE =
      Pattern.compile("\\s*(throw|private (static )?final .*=) new .*");

  private static final Checks is = new Checks();

  public static void main(String[] args) throws Exception {
    face();
    names();
    fields(PlayPool.class);
    for (Class<?> inside : PlayPool.class.getDeclaredClasses()) {
      fields(inside);
    }
    List<String> lines = Files.readAllLines(Path.of(SOURCE));
    text(lines);
    depths(lines);
    is.end("the face and the rules");
  }

  private static void face() {
    List<String> got = new ArrayList<>();
    for (Executable constructor : PlayPool.class.getDeclaredConstructors()) {
      addIfSeen(got, constructor, "");
    }
    for (Method method : PlayPool.class.getDeclaredMethods()) {
      addIfSeen(got, method, method.getReturnType() + " ");
    }
    for (Field field : PlayPool.class.getDeclaredFields()) {
      if (!Modifier.isPrivate(field.getModifiers())) {
        got.add("field " + field.getName());
      }
    }
    List<String> due = new ArrayList<>(Arrays.asList(FACE));
    got.sort(null);
    due.sort(null);
    is.eqText("the face", String.join("\n  ", got), String.join("\n  ", due));
    is.eq("the class", PlayPool.class.getModifiers(), Modifier.PUBLIC | Modifier.FINAL);
  }

  private static void addIfSeen(List<String> seen, Executable one, String type) {
    if (Modifier.isPrivate(one.getModifiers())) {
      return;
    }
    List<String> parameters = new ArrayList<>();
    for (Class<?> parameter : one.getParameterTypes()) {
      parameters.add(parameter.getName());
    }
    StringBuilder text = new StringBuilder(type).append(one.getName()).append('(')
        .append(String.join(",", parameters)).append(')');
    for (Class<?> thrown : one.getExceptionTypes()) {
      text.append(' ').append(thrown == IndexOutOfBoundsException.class ? "Index"
          : thrown == IllegalArgumentException.class ? "Argument"
          : thrown == IllegalStateException.class ? "State" : thrown.getName());
    }
    seen.add(text.toString());
  }

  private static void names() {
    Set<String> open = new HashSet<>();
    for (Method method : PlayPool.class.getMethods()) {
      open.add(method.getName());
    }
    List<Method> hidden = new ArrayList<>(Arrays.asList(PlayPool.class.getDeclaredMethods()));
    hidden.removeIf(method -> Modifier.isPublic(method.getModifiers()));
    for (Class<?> inside : PlayPool.class.getDeclaredClasses()) {
      hidden.addAll(Arrays.asList(inside.getDeclaredMethods()));
    }
    for (Method method : hidden) {
      is.note(!open.contains(method.getName()), "a public name is hidden: " + method);
      is.note(method.getParameterCount() <= 7, "too many parameters: " + method);
    }
  }

  private static void fields(Class<?> one) {
    int kept = 0;
    for (Field field : one.getDeclaredFields()) {
      boolean constant = Modifier.isStatic(field.getModifiers());
      is.note(!constant || Modifier.isFinal(field.getModifiers()), "not final: " + field);
      kept += constant ? 0 : 1;
    }
    is.note(kept <= 20, one + " has " + kept + " fields");
  }

  // No method has a blank line in it, so a method is no longer than the lines between two.
  private static void text(List<String> lines) {
    int blank = -1;
    for (int i = 0; i < lines.size(); i++) {
      String line = lines.get(i);
      String where = "line " + (i + 1) + ": " + line;
      if (line.isBlank()) {
        blank = i;
      }
      is.note(i - blank <= 60 || blank < 0, "more than 60 lines in one piece, " + where);
      is.note(line.chars().allMatch(c -> c < 127), "a sign beyond ASCII, " + where);
      if (line.startsWith("import ")) {
        String name = line.substring(7, line.length() - 1);
        is.note(Arrays.asList(IMPORTS).contains(name), where);
      } else if (!line.strip().startsWith("/**")) {
        String code = line.replaceAll("\"[^\"]*\"", "\"\"").replaceAll("//.*", "");
        is.note(!NOT_IN_IT.matcher(code).find(), "not in this Java, " + where);
        // What every run shares is a room for objects, so calls make none but exceptions.
        is.note(!code.matches(".*\\bnew\\b.*") || MADE_ONCE.matcher(code).matches(),
            "made by a call, " + where);
      }
    }
  }

  // Rules 8 and 11, by names alone: methods of one name in two classes are taken for one.
  private static void depths(List<String> lines) {
    Map<String, StringBuilder> bodies = new HashMap<>();
    StringBuilder body = new StringBuilder();
    for (String line : lines) {
      Matcher method = METHOD.matcher(line);
      if (method.matches()) {
        body = bodies.computeIfAbsent(method.group(2), name -> new StringBuilder());
      } else {
        body.append(line).append('\n');
      }
    }
    is.note(bodies.size() > 60, "only " + bodies.size() + " methods were seen");
    for (String name : bodies.keySet()) {
      is.note(depthOf(name, bodies, 1) <= 8, name + " calls itself, or goes too deep");
    }
  }

  private static int depthOf(String name, Map<String, StringBuilder> bodies, int depth) {
    int deepest = depth;
    Matcher called = CALLED.matcher(bodies.get(name));
    while (depth <= 8 && called.find()) {
      if (bodies.containsKey(called.group(1))) {
        deepest = Math.max(deepest, depthOf(called.group(1), bodies, depth + 1));
      }
    }
    return deepest;
  }
}
