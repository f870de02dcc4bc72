import java.util.ArrayList;
import java.util.List;

/**
 * A method that throws an exception changes nothing: after each call that is refused every answer
 * is as it is in a house that never had that call, and so it is after some more calls to both.
 */
public final class RefusedTest {
  private static final int MIN = Integer.MIN_VALUE;
  private static final int MAX = Integer.MAX_VALUE;
  private static final int LAST = 99999;
  private static final int MONTH = 14400;
  private static final Checks is = new Checks();

  private interface Change {
    void on(PlayPool x);
  }

  /** Some more calls; it answers what they answered. */
  private interface Tail {
    String on(PlayPool x);
  }

  private enum Kind {
    INDEX, ARGUMENT, STATE
  }

  private static final class Refused {
    private final Kind kind;
    private final String name;
    private final Change call;

    private Refused(Kind kind, String name, Change call) {
      this.kind = kind;
      this.name = name;
      this.call = call;
    }

    private void on(PlayPool x) {
      if (kind == Kind.INDEX) {
        is.index(name, () -> call.on(x));
      } else if (kind == Kind.ARGUMENT) {
        is.argument(name, () -> call.on(x));
      } else {
        is.state(name, () -> call.on(x));
      }
    }
  }

  private static final List<Refused> refused = new ArrayList<>();

  public static void main(String[] args) {
    emptyHouse();
    smallHouse();
    fullHouse();
    lastMinute();
    is.end("calls that are refused");
  }

  private static void emptyHouse() {
    refused.clear();
    wrongNumbers(0, 0, 0);
    wrongArguments();
    wrongQuestions();
    check("the empty house", PlayPool::new, RefusedTest::fillAHouse);
  }

  private static void smallHouse() {
    refused.clear();
    wrongNumbers(4, 2, 7);
    wrongArguments();
    wrongArgumentsOfWhatIsThere();
    wrongQuestions();
    wrongQuestionsOfWhatIsThere();
    state("down(2, true), a while later", x -> x.down(2, true));
    state("down(0, false)", x -> x.down(0, false));
    state("keep(0, 0), KEPT", x -> x.keep(0, 0));
    state("keep(0, 1), KEPT", x -> x.keep(0, 1));
    state("keep(0, 3), not ALLOWED", x -> x.keep(0, 3));
    state("keep(1, 0), not ALLOWED there", x -> x.keep(1, 0));
    state("keep(0, 2), DOWN", x -> x.keep(0, 2));
    argument("play of a minute to come", x -> x.play(0, 0, MONTH + 108, 60));
    state("play of a CLOSED MONTH", x -> x.play(0, 0, MONTH - 1, 60));
    state("play of a CLOSED MONTH", x -> x.play(0, 0, 0, 60));
    state("play of what is not KEPT", x -> x.play(0, 2, MONTH + 99, 60));
    state("play of what another KEPT", x -> x.play(1, 0, MONTH + 99, 60));
    check("the small house", RefusedTest::aSmallHouse, RefusedTest::goOn);
  }

  private static void fullHouse() {
    refused.clear();
    wrongNumbers(14, 8, 130);
    wrongArguments();
    wrongArgumentsOfWhatIsThere();
    for (int recording = 0; recording <= 9; recording++) {
      int one = recording;
      state("a 15th TRACK, of " + one, x -> x.track(one));
    }
    state("a 31st WINDOW", x -> x.window(13, 0, 0, LAST));
    state("a 31st WINDOW, a short one", x -> x.window(0, 1, 0, 0));
    state("a 9th LISTENER, FREE", x -> x.listener(3, 0));
    state("a 9th LISTENER, PAID", x -> x.listener(2, 1));
    state("a 9th LISTENER, a STUDENT", x -> x.listener(0, 2));
    state("a 131st PLAY", x -> x.play(0, 0, 0, 60));
    state("a 131st PLAY, too short", x -> x.play(7, 13, 0, 0));
    for (int track = 1; track <= 3; track++) {
      int kept = track;
      state("keep(0, " + track + "), KEPT", x -> x.keep(0, kept));
    }
    state("keep(7, 0), not ALLOWED there", x -> x.keep(7, 0));
    check("the full house", Houses::full, RefusedTest::goOnWithAll);
  }

  private static void lastMinute() {
    refused.clear();
    state("pass(1)", x -> x.pass(1));
    state("pass(20000)", x -> x.pass(20000));
    argument("pass(20001)", x -> x.pass(20001));
    argument("pass(0)", x -> x.pass(0));
    argument("play of minute 100000", x -> x.play(0, 0, LAST + 1, 60));
    state("play of a CLOSED MONTH", x -> x.play(0, 0, 6 * MONTH - 1, 60));
    check("the last minute", () -> Houses.keptSong(LAST), RefusedTest::goOnAtTheEnd);
    refused.clear();
    state("pass(2)", x -> x.pass(2));
    state("pass(20000)", x -> x.pass(20000));
    check("the last minute but one", () -> Houses.keptSong(LAST - 1), x -> "" + x.pass(1));
  }

  private static void check(String house, Questions.Made made, Tail tail) {
    List<String> asItWas = Questions.all(made);
    String answers = tail.on(made.house());
    List<String> asItWillBe = Questions.all(() -> wentOn(made.house(), tail));
    for (Refused one : refused) {
      String what = house + ", " + one.name + " refused";
      Questions.Made with = () -> {
        PlayPool x = made.house();
        one.on(x);
        return x;
      };
      is.eqLines(what, Questions.all(with), asItWas);
      is.eqText(what + ", more calls", tail.on(with.house()), answers);
      is.eqLines(what + ", after more calls", Questions.all(() -> wentOn(with.house(), tail)),
          asItWillBe);
    }
  }

  private static PlayPool wentOn(PlayPool x, Tail tail) {
    tail.on(x);
    return x;
  }

  private static void index(String name, Change call) {
    refused.add(new Refused(Kind.INDEX, name, call));
  }

  private static void argument(String name, Change call) {
    refused.add(new Refused(Kind.ARGUMENT, name, call));
  }

  private static void state(String name, Change call) {
    refused.add(new Refused(Kind.STATE, name, call));
  }

  // ---- what is refused

  private static void wrongNumbers(int tracks, int listeners, int plays) {
    for (int track : new int[] {-1, tracks}) {
      index("window, TRACK " + track, x -> x.window(track, 0, 0, LAST));
      index("down, TRACK " + track, x -> x.down(track, true));
      index("put back, TRACK " + track, x -> x.down(track, false));
      index("keep, TRACK " + track, x -> x.keep(0, track));
      index("play, TRACK " + track, x -> x.play(0, track, x.many(0), 60));
      index("ofTrack, TRACK " + track, x -> x.ofTrack(track, 0));
    }
    for (int listener : new int[] {-1, listeners}) {
      index("plan, LISTENER " + listener, x -> x.plan(listener, 1));
      index("flag, LISTENER " + listener, x -> x.flag(listener, true));
      index("clear, LISTENER " + listener, x -> x.flag(listener, false));
      index("keep, LISTENER " + listener, x -> x.keep(listener, 0));
      index("play, LISTENER " + listener, x -> x.play(listener, 0, x.many(0), 60));
      index("ofListener, LISTENER " + listener, x -> x.ofListener(listener, 0));
      index("next, LISTENER " + listener, x -> x.next(listener));
    }
    for (int play : new int[] {-1, plays}) {
      index("ofPlay, PLAY " + play, x -> x.ofPlay(play, 0));
    }
  }

  private static void wrongArguments() {
    for (int bad : new int[] {-1, 10}) {
      index("track(" + bad + ")", x -> x.track(bad));
      index("claim, RECORDING " + bad, x -> x.claim(bad, 0, 50));
    }
    for (int bad : new int[] {-1, 5}) {
      index("claim, PARTY " + bad, x -> x.claim(0, bad, 50));
      index("advance, PARTY " + bad, x -> x.advance(bad, 50));
    }
    for (int bad : new int[] {-1, 101}) {
      argument("claim of " + bad, x -> x.claim(0, 0, bad));
    }
    for (int bad : new int[] {MIN, 0, 100000, MAX}) {
      argument("advance of " + bad, x -> x.advance(0, bad));
    }
    for (int bad : new int[] {-1, 2}) {
      argument("rule(" + bad + ")", x -> x.rule(bad));
    }
    for (int bad : new int[] {-1, 4}) {
      index("listener, LAND " + bad, x -> x.listener(bad, 0));
    }
    for (int bad : new int[] {-1, 3}) {
      argument("listener, PLAN " + bad, x -> x.listener(0, bad));
    }
    for (int bad : new int[] {MIN, -1, 0, 20001, MAX}) {
      argument("pass(" + bad + ")", x -> x.pass(bad));
    }
  }

  private static void wrongArgumentsOfWhatIsThere() {
    for (int bad : new int[] {-1, 4}) {
      index("window, LAND " + bad, x -> x.window(0, bad, 0, LAST));
    }
    for (int bad : new int[] {-1, 100000}) {
      argument("window from " + bad, x -> x.window(0, 0, bad, LAST));
      argument("window to " + bad, x -> x.window(0, 0, 0, bad));
    }
    argument("window to below from", x -> x.window(0, 0, 5, 4));
    for (int bad : new int[] {-1, 3}) {
      argument("plan, PLAN " + bad, x -> x.plan(0, bad));
    }
    for (int bad : new int[] {MIN, -1, 100000, MAX}) {
      argument("play, minute " + bad, x -> x.play(0, 0, bad, 60));
    }
    for (int bad : new int[] {MIN, -1, 601, MAX}) {
      argument("play, SECONDS " + bad, x -> x.play(0, 0, x.many(0), bad));
    }
  }

  private static void wrongQuestions() {
    for (int bad : new int[] {-1, 5}) {
      index("ofParty, PARTY " + bad, x -> x.ofParty(bad, 0));
      index("wouldPay, PARTY " + bad, x -> x.wouldPay(bad, 0));
    }
    for (int bad : new int[] {-1, 10}) {
      index("ofRecording, RECORDING " + bad, x -> x.ofRecording(bad, 0));
      index("wouldGet, RECORDING " + bad, x -> x.wouldGet(bad, 0));
      index("alike, one " + bad, x -> x.alike(bad, 0));
      index("alike, other " + bad, x -> x.alike(0, bad));
    }
    for (int bad : new int[] {-1, 2}) {
      argument("wouldPay, RULE " + bad, x -> x.wouldPay(0, bad));
      argument("wouldGet, RULE " + bad, x -> x.wouldGet(0, bad));
    }
    for (int bad : new int[] {-1, 4}) {
      argument("ofParty, what " + bad, x -> x.ofParty(0, bad));
      index("chart, LAND " + bad, x -> x.chart(bad, 0));
    }
    for (int bad : new int[] {-1, 7}) {
      argument("ofRecording, what " + bad, x -> x.ofRecording(0, bad));
    }
    for (int bad : new int[] {-1, 18}) {
      argument("many(" + bad + ")", x -> x.many(bad));
    }
    for (int bad : new int[] {-1, 6}) {
      index("reasons(" + bad + ")", x -> x.reasons(bad));
    }
    argument("chart, k -1", x -> x.chart(0, -1));
    argument("alike, both 0", x -> x.alike(0, 0));
  }

  private static void wrongQuestionsOfWhatIsThere() {
    for (int bad : new int[] {-1, 4}) {
      argument("ofTrack, what " + bad, x -> x.ofTrack(0, bad));
    }
    for (int bad : new int[] {-1, 8}) {
      argument("ofListener, what " + bad, x -> x.ofListener(0, bad));
    }
    for (int bad : new int[] {-1, 6}) {
      argument("ofPlay, what " + bad, x -> x.ofPlay(0, bad));
    }
  }

  // ---- the houses, and how they go on

  private static String fillAHouse(PlayPool x) {
    x.track(0);
    x.track(9);
    x.window(0, 0, 0, LAST);
    x.window(1, 0, 0, LAST);
    x.listener(0, 1);
    x.listener(0, 0);
    x.claim(0, 0, 90);
    x.claim(9, 4, 90);
    return x.keep(0, 1) + " " + x.play(0, 0, 0, 60) + " " + x.play(1, 1, 0, 60) + " "
        + x.pass(MONTH + 5) + " " + x.play(0, 1, MONTH, 60) + " " + x.digest();
  }

  // In its second MONTH something is HELD, DUE, PAID and RECOUPED, in the BOX and in a CARRY.
  private static PlayPool aSmallHouse() {
    PlayPool x = new PlayPool();
    for (int track = 0; track < 4; track++) {
      x.track(track);
      x.window(track, track == 3 ? 2 : 0, 0, LAST);
    }
    x.listener(0, 1);
    x.listener(1, 2);
    x.claim(0, 0, 100);
    x.claim(1, 1, 60);
    x.claim(1, 2, 60);
    x.claim(2, 3, 50);
    x.advance(3, 5);
    x.advance(4, 700);
    x.keep(0, 0);
    x.keep(0, 1);
    Houses.plays(x, 0, 0, 0, 5);
    x.play(0, 1, 0, 60);
    x.play(0, 2, 0, 60);
    x.pass(MONTH + 100);
    x.down(2, true);
    x.flag(1, true);
    x.pass(7);
    return x;
  }

  private static String goOn(PlayPool x) {
    String first = x.play(0, 1, MONTH, 60) + " " + x.play(0, 0, MONTH + 50, 60) + " "
        + x.play(0, 2, MONTH + 107, 60) + " " + x.down(2, false) + " " + x.keep(0, 2) + " "
        + x.window(3, 0, 0, LAST) + " " + x.keep(0, 3) + " " + x.play(0, 1, MONTH + 99, 60);
    String then = x.flag(1, false) + " " + x.wouldPay(0, 1) + " " + x.claim(1, 2, 0) + " "
        + x.advance(4, 1) + " " + x.plan(1, 0) + " " + x.pass(MONTH) + " " + x.rule(1) + " "
        + x.play(0, 3, 2 * MONTH, 60) + " " + x.track(9) + " " + x.listener(3, 1);
    return first + " " + then + " " + x.pass(20000) + " " + x.digest();
  }

  private static String goOnWithAll(PlayPool x) {
    StringBuilder answers = new StringBuilder();
    for (int listener = 0; listener < 8; listener += 4) {
      for (int track : new int[] {0, 4, 1, 2}) {
        answers.append(x.keep(listener, track)).append(' ');
      }
    }
    answers.append(x.down(0, true)).append(' ').append(x.flag(1, true)).append(' ')
        .append(x.plan(2, 1)).append(' ').append(x.claim(3, 3, 21)).append(' ')
        .append(x.rule(1)).append(' ').append(x.pass(MONTH)).append(' ')
        .append(x.claim(3, 3, 0)).append(' ').append(x.pass(MONTH));
    return answers.toString();
  }

  private static String goOnAtTheEnd(PlayPool x) {
    return x.play(0, 0, LAST, 60) + " " + x.play(0, 0, 6 * MONTH, 60) + " " + x.down(0, true) + " "
        + x.wouldGet(0, 0) + " " + x.digest();
  }
}
