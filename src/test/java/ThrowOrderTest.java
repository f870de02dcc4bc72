/** Where several exceptions apply, that which the document names first is thrown. */
public final class ThrowOrderTest {
  private static final int MIN = Integer.MIN_VALUE;
  private static final int MAX = Integer.MAX_VALUE;
  private static final int LAST = 99999;
  private static final Checks is = new Checks();

  public static void main(String[] args) {
    rightsOfAFullHouse();
    rightsOfAnEmptyHouse();
    listeners();
    keeps();
    playsOfAFullHouse();
    playsOfAClosedMonth();
    playsOfWhatIsNotKept();
    passes();
    questions();
    is.end("which exception is first");
  }

  // A full house in the last minute of all: whatever can be a wrong state is one.
  private static PlayPool fullAtTheEnd() {
    PlayPool x = Houses.full();
    Houses.passTo(x, LAST);
    return x;
  }

  private static void rightsOfAFullHouse() {
    PlayPool x = Houses.full();
    for (int bad : new int[] {MIN, -1, 10, MAX}) {
      is.index("track: RECORDING ahead of 14", () -> x.track(bad));
    }
    is.state("track: 14", () -> x.track(9));
    for (int bad : new int[] {MIN, -1, 14, MAX}) {
      is.index("window: TRACK ahead of 30", () -> x.window(bad, 0, 0, 0));
      is.index("window: TRACK ahead of from", () -> x.window(bad, 0, -1, 0));
      is.index("window: TRACK ahead of to", () -> x.window(bad, 0, 5, 4));
      is.index("window: TRACK and LAND", () -> x.window(bad, 4, 100000, -1));
    }
    for (int bad : new int[] {MIN, -1, 4, MAX}) {
      is.index("window: LAND ahead of 30", () -> x.window(0, bad, 0, 0));
      is.index("window: LAND ahead of from", () -> x.window(0, bad, 100000, 100000));
      is.index("window: LAND ahead of to", () -> x.window(0, bad, 0, 100000));
      is.index("window: LAND ahead of to below from", () -> x.window(0, bad, 5, 4));
    }
    is.argument("window: from -1 ahead of 30", () -> x.window(0, 0, -1, 0));
    is.argument("window: from 100000 ahead of 30", () -> x.window(0, 0, 100000, 100000));
    is.argument("window: to below from ahead of 30", () -> x.window(0, 0, 5, 4));
    is.argument("window: to 100000 ahead of 30", () -> x.window(0, 0, 5, 100000));
    is.state("window: 30", () -> x.window(0, 0, 0, 0));
  }

  private static void rightsOfAnEmptyHouse() {
    PlayPool x = new PlayPool();
    is.index("window: no TRACK ahead of from", () -> x.window(0, 0, -1, 0));
    is.index("down: no TRACK ahead of not DOWN", () -> x.down(0, false));
    is.index("claim: RECORDING ahead of hundredths", () -> x.claim(-1, 0, -1));
    is.index("claim: RECORDING ahead of hundredths", () -> x.claim(10, 0, 101));
    is.index("claim: PARTY ahead of hundredths", () -> x.claim(0, -1, 101));
    is.index("claim: PARTY ahead of hundredths", () -> x.claim(0, 5, -1));
    is.index("advance: PARTY ahead of amount", () -> x.advance(-1, 0));
    is.index("advance: PARTY ahead of amount", () -> x.advance(5, 100000));
  }

  private static void listeners() {
    PlayPool x = Houses.full();
    is.index("listener: LAND ahead of 8", () -> x.listener(-1, 0));
    is.index("listener: LAND ahead of 8", () -> x.listener(4, 0));
    is.index("listener: LAND ahead of PLAN", () -> x.listener(-1, -1));
    is.index("listener: LAND ahead of PLAN", () -> x.listener(4, 3));
    is.argument("listener: PLAN ahead of 8", () -> x.listener(0, -1));
    is.argument("listener: PLAN ahead of 8", () -> x.listener(3, 3));
    is.state("listener: 8", () -> x.listener(0, 0));
    is.index("plan: LISTENER ahead of PLAN", () -> x.plan(-1, 3));
    is.index("plan: LISTENER ahead of PLAN", () -> x.plan(8, -1));
    PlayPool y = new PlayPool();
    is.index("listener: LAND ahead of PLAN", () -> y.listener(4, 3));
    is.index("plan: no LISTENER ahead of PLAN", () -> y.plan(0, 3));
  }

  private static void keeps() {
    PlayPool x = Houses.songs(1);
    x.track(1);
    x.listener(0, 0);
    x.keep(0, 0);
    x.down(1, true);
    is.index("keep: LISTENER ahead of not ALLOWED", () -> x.keep(1, 1));
    is.index("keep: LISTENER ahead of KEPT", () -> x.keep(-1, 0));
    is.index("keep: TRACK ahead of what is KEPT", () -> x.keep(0, 2));
    is.index("keep: neither of both", () -> x.keep(1, 2));
    is.state("keep: not ALLOWED and DOWN", () -> x.keep(0, 1));
  }

  private static void playsOfAFullHouse() {
    PlayPool x = fullAtTheEnd();
    is.index("play: LISTENER ahead of 130", () -> x.play(8, 0, LAST, 60));
    is.index("play: LISTENER ahead of minute", () -> x.play(8, 0, -1, 60));
    is.index("play: LISTENER ahead of SECONDS", () -> x.play(-1, 0, LAST, 601));
    is.index("play: TRACK ahead of 130", () -> x.play(0, 14, LAST, 60));
    is.index("play: TRACK ahead of minute", () -> x.play(0, 14, LAST + 1, 60));
    is.index("play: TRACK ahead of SECONDS", () -> x.play(0, -1, LAST, -1));
    is.index("play: neither, ahead of all", () -> x.play(MAX, MIN, MAX, MIN));
    is.argument("play: minute ahead of 130", () -> x.play(0, 0, LAST + 1, 60));
    is.argument("play: minute ahead of CLOSED", () -> x.play(0, 0, -1, 60));
    is.argument("play: SECONDS ahead of 130", () -> x.play(0, 0, LAST, 601));
    is.argument("play: SECONDS ahead of 130", () -> x.play(0, 0, LAST, -1));
    is.argument("play: SECONDS ahead of CLOSED", () -> x.play(0, 1, 0, 601));
    is.argument("play: SECONDS ahead of CLOSED, not KEPT and 130", () -> x.play(0, 5, 0, -1));
    is.state("play: 130", () -> x.play(0, 0, LAST, 60));
    is.state("play: CLOSED, not KEPT and 130", () -> x.play(0, 5, 0, 60));
  }

  private static void playsOfAClosedMonth() {
    PlayPool x = Houses.keptSong(14400);
    is.index("play: LISTENER ahead of CLOSED", () -> x.play(1, 0, 14399, 60));
    is.index("play: TRACK ahead of CLOSED", () -> x.play(0, 1, 14399, 60));
    is.argument("play: SECONDS ahead of CLOSED", () -> x.play(0, 0, 14399, -1));
    is.argument("play: SECONDS ahead of CLOSED", () -> x.play(0, 0, 14399, 601));
    is.state("play: CLOSED", () -> x.play(0, 0, 14399, 60));
  }

  private static void playsOfWhatIsNotKept() {
    PlayPool x = Houses.songs(1);
    x.listener(0, 0);
    x.pass(9);
    is.index("play: LISTENER ahead of not KEPT", () -> x.play(1, 0, 8, 60));
    is.index("play: TRACK ahead of not KEPT", () -> x.play(0, 1, 8, 60));
    is.argument("play: minute ahead of not KEPT", () -> x.play(0, 0, -1, 60));
    is.argument("play: SECONDS ahead of not KEPT", () -> x.play(0, 0, 8, 601));
    is.argument("play: SECONDS ahead of not KEPT", () -> x.play(0, 0, 8, -1));
    is.state("play: not KEPT", () -> x.play(0, 0, 8, 60));
  }

  private static void passes() {
    PlayPool x = fullAtTheEnd();
    for (int bad : new int[] {MIN, -1, 0, 20001, MAX}) {
      is.argument("pass: minutes ahead of NOW", () -> x.pass(bad));
    }
    is.state("pass: NOW", () -> x.pass(1));
    is.state("pass: NOW", () -> x.pass(20000));
  }

  private static void questions() {
    PlayPool x = Houses.oneSong(0);
    is.index("ofTrack: TRACK ahead of what", () -> x.ofTrack(1, 4));
    is.index("ofTrack: TRACK ahead of what", () -> x.ofTrack(-1, -1));
    is.index("ofListener: LISTENER ahead of what", () -> x.ofListener(1, 8));
    is.index("ofListener: LISTENER ahead of what", () -> x.ofListener(-1, -1));
    is.index("ofPlay: PLAY ahead of what", () -> x.ofPlay(1, 6));
    is.index("ofPlay: PLAY ahead of what", () -> x.ofPlay(-1, -1));
    is.index("ofParty: PARTY ahead of what", () -> x.ofParty(5, 4));
    is.index("ofParty: PARTY ahead of what", () -> x.ofParty(-1, -1));
    is.index("ofRecording: RECORDING ahead of what", () -> x.ofRecording(10, 7));
    is.index("ofRecording: RECORDING ahead of what", () -> x.ofRecording(-1, -1));
    is.index("chart: LAND ahead of k", () -> x.chart(4, -1));
    is.index("chart: LAND ahead of k", () -> x.chart(-1, MIN));
    is.index("alike: RECORDING ahead of both the same", () -> x.alike(10, 10));
    is.index("alike: RECORDING ahead of both the same", () -> x.alike(-1, -1));
    is.index("wouldGet: RECORDING ahead of RULE", () -> x.wouldGet(10, 2));
    is.index("wouldGet: RECORDING ahead of RULE", () -> x.wouldGet(-1, -1));
    is.index("wouldPay: PARTY ahead of RULE", () -> x.wouldPay(5, 2));
    is.index("wouldPay: PARTY ahead of RULE", () -> x.wouldPay(-1, -1));
  }
}
