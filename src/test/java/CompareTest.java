import java.lang.reflect.InvocationTargetException;
import java.lang.reflect.Method;
import java.util.ArrayList;
import java.util.Arrays;
import java.util.List;

/** Runs of calls drawn by a fixed seed, each answered by PlayPool and by PlainHouse alike. */
public final class CompareTest {
  private static final int RUNS = 600;
  // And the digest is the 512th.
  private static final int CALLS = 511;

  private static final Checks is = new Checks();
  private static long seed = 20261119;

  private static int below(int bound) {
    seed = seed * 6364136223846793005L + 1442695040888963407L;
    return (int) ((seed >>> 33) % bound);
  }

  private static int oneOf(int... values) {
    return values[below(values.length)];
  }

  // Mostly a number that is there, now and then one beside it.
  private static int number(int many) {
    return below(40) == 0 ? oneOf(-1, many, Integer.MIN_VALUE, Integer.MAX_VALUE)
        : many == 0 ? 0 : below(many);
  }

  private static int minute(int now) {
    switch (below(8)) {
      case 0:
        return now - now % 14400;
      case 1:
        return now - now % 1440;
      case 2:
        return now - below(4);
      case 3:
        return below(now + 2);
      case 4:
        return now - below(1 + now % 14400);
      default:
        return now;
    }
  }

  private static int minutes(int now, int pace) {
    switch (below(pace < 100 ? 20 : 11)) {
      case 0:
        return 14400 - now % 14400;
      case 1:
        return 1440 - now % 1440;
      case 2:
        return oneOf(14399, 14400, 14401, 20000);
      case 3:
        return oneOf(0, -1, 20001, 1);
      case 10:
        return oneOf(99999 - now, 100000 - now, 20000);
      default:
        return 1 + below(pace);
    }
  }

  private static Object[] arguments(String name, PlainHouse x, int style) {
    boolean fullDay = style % PACES.length == 0;
    int lands = fullDay ? 1 : style % 2 == 0 ? 2 : 4;
    int recordings = fullDay ? 2 : style % 3 == 0 ? 10 : 4;
    int now = x.many(0);
    switch (name) {
      case "track":
        return new Object[] {number(recordings)};
      case "window":
        int from = oneOf(0, 0, 0, 0, now, now - below(2000), below(100000), 99999, 100000);
        int to = oneOf(99999, 99999, from, from + below(30000), from - 1, now, 100000);
        return new Object[] {number(x.many(2)), number(lands), from, to};
      case "down":
        return new Object[] {number(x.many(2)), below(2) == 0};
      case "claim":
        return new Object[] {number(recordings), number(5),
            oneOf(0, 10, 20, 33, 50, below(101), below(101), 100, 101, -1)};
      case "advance":
        return new Object[] {number(5), oneOf(1, 50, 200, 1 + below(1000), 99999, 0, 100000)};
      case "rule":
        return new Object[] {number(2)};
      case "listener":
        return new Object[] {number(lands), number(3)};
      case "plan":
        return new Object[] {number(x.many(4)), number(3)};
      case "flag":
        return new Object[] {number(x.many(4)), below(3) == 0};
      case "keep":
        return new Object[] {number(x.many(4)), number(x.many(2))};
      case "play":
        return new Object[] {number(x.many(4)), number(x.many(2)), minute(now),
            oneOf(30, 29, 60, 100, 240, 600, below(601), below(8) == 0 ? 601 : 31, 90, 180)};
      case "pass":
        return new Object[] {minutes(now, PACES[style % PACES.length])};
      case "ofTrack":
        return new Object[] {number(x.many(2)), number(4)};
      case "ofListener":
        return new Object[] {number(x.many(4)), number(8)};
      case "ofPlay":
        return new Object[] {number(x.many(5)), number(6)};
      case "ofParty":
        return new Object[] {number(5), number(4)};
      case "ofRecording":
        return new Object[] {number(recordings), number(7)};
      case "many":
        return new Object[] {number(18)};
      case "reasons":
        return new Object[] {number(6)};
      case "chart":
        return new Object[] {number(4), number(4)};
      case "alike":
        return new Object[] {number(recordings), number(recordings)};
      case "next":
        return new Object[] {number(x.many(4))};
      case "wouldGet":
        return new Object[] {number(recordings), number(2)};
      case "wouldPay":
        return new Object[] {number(5), number(2)};
      default:
        return new Object[0];
    }
  }

  // How many minutes go by at once: in the first kind of run a DAY sees many PLAYS.
  private static final int[] PACES = {60, 300, 300, 3000, 3000};
  private static final String[] ON_A_FULL_DAY = {"play", "play", "play", "play", "play", "play",
      "play", "play", "play", "play", "play", "play", "play", "window", "pass", "pass", "flag",
      "down", "down", "keep", "keep", "keep", "chart", "next", "wouldPay", "wouldGet"};
  private static final String[] OFTEN = {"play", "play", "play", "play", "play", "play", "play",
      "pass", "pass", "window", "keep", "keep", "flag", "down", "down", "claim", "claim", "plan",
      "rule", "advance", "next", "chart", "wouldPay", "wouldGet", "alike"};
  private static final String[] AT_FIRST = {"track", "track", "track", "window", "window",
      "window", "window", "window", "listener", "listener", "claim", "claim", "play"};

  private static Object answer(Object house, Method method, Object[] arguments) throws Exception {
    try {
      return method.invoke(house, arguments);
    } catch (InvocationTargetException e) {
      return e.getCause().getClass().getName();
    }
  }

  private static Method methodOf(Class<?> face, String name) {
    for (Method method : face.getMethods()) {
      if (method.getName().equals(name) && method.getDeclaringClass() == face) {
        return method;
      }
    }
    throw new IllegalArgumentException(name);
  }

  private static String nameOfCall(int run, int call, List<String> all) {
    boolean fullDay = run % PACES.length == 0;
    if (call < (fullDay ? 15 : 45)) {
      return oneOfTexts(AT_FIRST);
    }
    if (call % 40 == 39) {
      return "digest";
    }
    return below(fullDay ? 30 : 6) == 0 ? all.get(below(all.size()))
        : oneOfTexts(fullDay ? ON_A_FULL_DAY : OFTEN);
  }

  private static String oneOfTexts(String[] texts) {
    return texts[below(texts.length)];
  }

  private static boolean sameInOneRun(int run, List<String> all) throws Exception {
    PlayPool x = new PlayPool();
    PlainHouse y = new PlainHouse();
    StringBuilder told = new StringBuilder();
    for (int call = 0; call < CALLS; call++) {
      String name = nameOfCall(run, call, all);
      Object[] arguments = arguments(name, y, run);
      Object got = answer(x, methodOf(PlayPool.class, name), arguments);
      Object due = answer(y, methodOf(PlainHouse.class, name), arguments);
      told.append(name).append(Arrays.toString(arguments)).append(" -> ").append(got).append('\n');
      if (!got.equals(due)) {
        System.out.println(told + "run " + run + ": the last one should be " + due);
        return false;
      }
    }
    return x.digest() == y.digest();
  }

  public static void main(String[] args) throws Exception {
    List<String> all = new ArrayList<>();
    for (Method method : PlayPool.class.getDeclaredMethods()) {
      if (java.lang.reflect.Modifier.isPublic(method.getModifiers())) {
        all.add(method.getName());
      }
    }
    // The machine may list them in any order, and a run has to be the same each time.
    all.sort(null);
    is.eq("methods of the face", all.size(), 26);
    boolean same = true;
    for (int run = 0; run < RUNS && same; run++) {
      same = sameInOneRun(run, all);
      is.note(same, "run " + run + " differs");
    }
    is.end("comparison with PlainHouse");
  }
}
