/** The boundary cases of "Listeners and plays" and of promises 8 to 13. */
public final class PlaysEdgesTest {
  private static final int MIN = Integer.MIN_VALUE;
  private static final int MAX = Integer.MAX_VALUE;
  private static final int LAST = 99999;
  private static final int MONTH = 14400;
  private static final Checks is = new Checks();

  public static void main(String[] args) {
    listenersAndPhones();
    numbersOfPlays();
    reasons();
    fiveADay();
    minutesGoBy();
    is.end("the edges of promises 8 to 13");
  }

  private static void listenersAndPhones() {
    landsAndPlansOfListeners();
    listenersAreAtMost8();
    listenerOfTheEndOfAMonth();
    plansAre0To2();
    planOfTheEndOfAMonth();
    flagOfEveryListener();
    flagInTheLastMinuteOfAMonth();
    flagAMinuteLater();
    clearedInTheLastMinuteOfAMonth();
    numbersOfKeep();
    threeOnAPhone();
    keptForLongestIsGone();
    refusedKeepIsNotNewer();
    phonesAreApart();
    keptAnotherTrackOfOneRecording();
    keptWhileDown();
  }

  private static void numbersOfPlays() {
    numbersOfPlay();
    minuteIs0ToNow();
    secondsAre0To600();
    offlineNeedsThePhone();
    offlineFromTheFirstMinuteOfAMonth();
    offlineNotOfAClosedMonth();
    offlineAtTheEndOfAllMinutes();
    playsAreAtMost130();
    playsAreAtMost130Ever();
  }

  private static void reasons() {
    shortIsBelow30();
    eachReasonAheadOfTheNext();
    tooOftenBehindTheOthers();
    flaggedFromTheFirstPlayOn();
    closedReasonsStay();
  }

  private static void fiveADay() {
    fiveEarlierOnes();
    fiveOfOneMinuteByNumber();
    fiveByMinuteAheadOfNumber();
    fiveThatCount();
    fiveOfOneRecordingByOneListener();
    fiveOfTheFirstDay();
    fiveOfEveryDay();
    fiveOfTheLastDay();
    fiveOverTheEndOfAMonth();
    fiveWhereOneFallsOut();
    fiveWhereOneComesIn();
  }

  private static void minutesGoBy() {
    minutesOfPass();
    nowIsAtMost99999();
    endOfEachMonth();
    endsOfMonthsInOnePass();
    paidByThatPassAlone();
  }

  // ---- promise 8

  private static void landsAndPlansOfListeners() {
    PlayPool x = new PlayPool();
    for (int bad : new int[] {MIN, -1, 4, MAX}) {
      is.index("listener in LAND " + bad, () -> x.listener(bad, 0));
    }
    for (int bad : new int[] {MIN, -1, 3, MAX}) {
      is.argument("listener of PLAN " + bad, () -> x.listener(0, bad));
    }
    is.eq("none by a throw", x.many(4), 0);
    is.eq("the first of both", x.listener(0, 0), 0);
    is.eq("the last of both", x.listener(3, 2), 1);
    is.eq("LAND 0", x.ofListener(0, 0), 0);
    is.eq("FREE", x.ofListener(0, 1), 0);
    is.eq("LAND 3", x.ofListener(1, 0), 3);
    is.eq("STUDENT", x.ofListener(1, 1), 2);
    for (int what = 2; what <= 7; what++) {
      is.eq("nothing at first, " + what, x.ofListener(1, what), 0);
    }
  }

  private static void listenersAreAtMost8() {
    PlayPool x = Houses.songs(1);
    for (int i = 0; i < 8; i++) {
      int beyond = i;
      is.index("not there yet", () -> x.ofListener(beyond, 0));
      is.eq("numbered from 0", x.listener(i % 2, i % 3), i);
      is.eq("how many", x.many(4), i + 1);
    }
    is.state("a 9th", () -> x.listener(0, 0));
    is.state("a 9th", () -> x.listener(3, 2));
    is.eq("8 of them", x.many(4), 8);
    is.eq("the last one", x.ofListener(7, 0), 1);
    is.eq("the last one plays", x.play(6, 0, 0, 60), 0);
    is.index("there is no 9th: ofListener", () -> x.ofListener(8, 0));
    is.index("there is no 9th: play", () -> x.play(8, 0, 0, 60));
    is.index("there is no 9th: next", () -> x.next(8));
    x.pass(MONTH);
    is.eq("FEES of 8", x.many(8), 3 * 60 + 3 * 300 + 2 * 150);
  }

  private static void listenerOfTheEndOfAMonth() {
    PlayPool x = new PlayPool();
    x.pass(MONTH - 1);
    x.listener(0, 1);
    x.pass(1);
    x.listener(0, 1);
    is.eq("told in the last minute", x.ofListener(0, 7), 1000);
    is.eq("told a minute later", x.ofListener(1, 7), 0);
    is.eq("the POOL of one", x.many(14), 700);
  }

  // ---- promise 9

  private static void plansAre0To2() {
    PlayPool x = new PlayPool();
    for (int i = 0; i < 8; i++) {
      x.listener(0, 1);
    }
    for (int bad : new int[] {MIN, -1, 8, MAX}) {
      is.index("plan of LISTENER " + bad, () -> x.plan(bad, 0));
    }
    for (int bad : new int[] {MIN, -1, 3, MAX}) {
      is.argument("PLAN " + bad, () -> x.plan(0, bad));
    }
    is.eq("not by a throw", x.ofListener(0, 1), 1);
    for (int listener : new int[] {0, 7}) {
      is.eq("that before", x.plan(listener, 0), 1);
      is.eq("that before", x.plan(listener, 0), 0);
      is.eq("that before", x.plan(listener, 2), 0);
      is.eq("its PLAN", x.ofListener(listener, 1), 2);
    }
    is.eq("the PLAN of another", x.ofListener(6, 1), 1);
  }

  private static void planOfTheEndOfAMonth() {
    int[] fees = {200, 1000, 500};
    int[] pools = {140, 700, 350};
    for (int plan = 0; plan <= 2; plan++) {
      PlayPool x = new PlayPool();
      x.listener(2, (plan + 1) % 3);
      x.pass(MONTH - 1);
      is.eq("no FEE a minute ahead", x.ofListener(0, 7), 0);
      x.plan(0, plan);
      x.pass(1);
      x.plan(0, (plan + 2) % 3);
      is.eq("FEE of PLAN " + plan, x.ofListener(0, 7), fees[plan]);
      is.eq("POOL of PLAN " + plan, x.many(16), pools[plan]);
      is.eq("the HOUSE's of PLAN " + plan, x.many(8), fees[plan] - pools[plan]);
    }
  }

  // ---- promise 10

  private static void flagOfEveryListener() {
    PlayPool x = new PlayPool();
    for (int i = 0; i < 8; i++) {
      x.listener(0, 0);
    }
    for (int bad : new int[] {MIN, -1, 8, MAX}) {
      is.index("flag(" + bad + ", true)", () -> x.flag(bad, true));
      is.index("flag(" + bad + ", false)", () -> x.flag(bad, false));
    }
    for (int listener : new int[] {0, 7}) {
      is.eq("not at first", x.flag(listener, false) ? 1 : 0, 0);
      is.eq("not cleared", x.flag(listener, true) ? 1 : 0, 0);
      is.eq("it was", x.flag(listener, true) ? 1 : 0, 1);
      is.eq("FLAGGED", x.ofListener(listener, 2), 1);
    }
    is.eq("another is not", x.ofListener(6, 2), 0);
    is.eq("it was", x.flag(7, false) ? 1 : 0, 1);
    is.eq("cleared", x.ofListener(7, 2), 0);
  }

  private static void flagInTheLastMinuteOfAMonth() {
    PlayPool x = Houses.oneSong(1);
    x.pass(MONTH - 1);
    x.flag(0, true);
    x.pass(1);
    x.flag(0, false);
    is.eq("CLOSED as FLAGGED", x.ofPlay(0, 4), 4);
    is.eq("nothing was got", x.ofRecording(0, 3), 0);
    is.eq("it paid", x.ofListener(0, 7), 1000);
    is.eq("its POOL stays", x.many(14), 700);
  }

  private static void flagAMinuteLater() {
    PlayPool x = Houses.oneSong(1);
    x.pass(MONTH);
    x.flag(0, true);
    is.eq("CLOSED as it COUNTS", x.ofPlay(0, 4), 0);
    is.eq("it was got", x.ofRecording(0, 3), 700);
    is.eq("in the next MONTH", x.play(0, 0, MONTH, 60), 4);
  }

  private static void clearedInTheLastMinuteOfAMonth() {
    PlayPool x = Houses.oneSong(1);
    x.flag(0, true);
    x.pass(MONTH - 1);
    x.flag(0, false);
    x.pass(1);
    x.flag(0, true);
    is.eq("CLOSED as it COUNTS", x.ofPlay(0, 4), 0);
    is.eq("it was got", x.ofRecording(0, 3), 700);
  }

  // ---- promise 11

  private static void numbersOfKeep() {
    PlayPool x = new PlayPool();
    for (int i = 0; i < 14; i++) {
      x.track(i % 10);
    }
    for (int i = 0; i < 8; i++) {
      x.listener(0, 0);
    }
    x.window(0, 0, 0, LAST);
    x.window(13, 0, 0, LAST);
    for (int bad : new int[] {MIN, -1, 8, MAX}) {
      is.index("keep by LISTENER " + bad, () -> x.keep(bad, 0));
    }
    for (int bad : new int[] {MIN, -1, 14, MAX}) {
      is.index("keep of TRACK " + bad, () -> x.keep(0, bad));
    }
    is.eq("none by a throw", x.ofListener(0, 3), 0);
    is.eq("the first of both", x.keep(0, 0), -1);
    is.eq("the last of both", x.keep(7, 13), -1);
    is.eq("on the last PHONE", x.ofListener(7, 3), 1);
    is.eq("on another PHONE", x.ofListener(6, 3), 0);
  }

  private static void threeOnAPhone() {
    PlayPool x = Houses.songs(5);
    x.listener(0, 0);
    int[] gone = {-1, -1, -1, 0, 1};
    int[] many = {1, 2, 3, 3, 3};
    for (int track = 0; track < 5; track++) {
      int one = track;
      is.eq("gone by TRACK " + track, x.keep(0, track), gone[track]);
      is.eq("on the PHONE", x.ofListener(0, 3), many[track]);
      is.state("it is KEPT", () -> x.keep(0, one));
    }
    x.pass(1);
    for (int track = 2; track < 5; track++) {
      int one = track;
      is.eq("KEPT: TRACK " + track, x.play(0, track, 0, 60), 0);
      is.state("it is KEPT", () -> x.keep(0, one));
    }
    is.state("gone: TRACK 0", () -> x.play(0, 0, 0, 60));
    is.state("gone: TRACK 1", () -> x.play(0, 1, 0, 60));
  }

  private static void keptForLongestIsGone() {
    PlayPool x = Houses.songs(4);
    x.listener(0, 0);
    int[] keeps = {3, 1, 2, 0, 3, 1, 2, 0, 1};
    int[] gone = {-1, -1, -1, 3, 1, 2, 0, 3, -2};
    for (int i = 0; i < keeps.length; i++) {
      int track = keeps[i];
      if (gone[i] == -2) {
        is.state("KEPT since it came back", () -> x.keep(0, track));
      } else {
        is.eq("gone by keep " + i, x.keep(0, track), gone[i]);
      }
    }
  }

  private static void refusedKeepIsNotNewer() {
    PlayPool x = Houses.songs(4);
    x.listener(0, 0);
    for (int track = 0; track < 3; track++) {
      x.keep(0, track);
    }
    is.state("KEPT", () -> x.keep(0, 0));
    x.down(3, true);
    is.state("DOWN", () -> x.keep(0, 3));
    x.down(3, false);
    is.eq("three by then", x.ofListener(0, 3), 3);
    is.eq("on it for longest still", x.keep(0, 3), 0);
  }

  private static void phonesAreApart() {
    PlayPool x = Houses.songs(4);
    for (int listener = 0; listener < 8; listener++) {
      x.listener(0, 0);
      for (int i = 0; i < 3; i++) {
        is.eq("on a PHONE of its own", x.keep(listener, (listener + i) % 4), -1);
      }
    }
    for (int listener = 0; listener < 8; listener++) {
      is.eq("the first of its own", x.keep(listener, (listener + 3) % 4), listener % 4);
      is.eq("three of its own", x.ofListener(listener, 3), 3);
    }
  }

  private static void keptAnotherTrackOfOneRecording() {
    PlayPool x = new PlayPool();
    x.track(4);
    x.track(4);
    x.window(0, 0, 0, LAST);
    x.window(1, 0, 0, LAST);
    x.listener(0, 0);
    x.keep(0, 0);
    x.pass(1);
    is.state("it is the TRACK that is KEPT", () -> x.play(0, 1, 0, 60));
    is.eq("the other one can be KEPT too", x.keep(0, 1), -1);
  }

  private static void keptWhileDown() {
    PlayPool x = Houses.keptSong(5);
    x.down(0, true);
    is.eq("still on the PHONE", x.ofListener(0, 3), 1);
    is.eq("offline, ahead of that", x.play(0, 0, 4, 60), 0);
    x.down(0, false);
    is.state("KEPT", () -> x.keep(0, 0));
  }

  // ---- promise 12: what is refused

  private static void numbersOfPlay() {
    PlayPool x = new PlayPool();
    for (int i = 0; i < 14; i++) {
      x.track(i % 10);
    }
    for (int i = 0; i < 8; i++) {
      x.listener(3, 0);
    }
    x.window(13, 3, 0, 0);
    for (int bad : new int[] {MIN, -1, 8, MAX}) {
      is.index("play by LISTENER " + bad, () -> x.play(bad, 0, 0, 60));
    }
    for (int bad : new int[] {MIN, -1, 14, MAX}) {
      is.index("play of TRACK " + bad, () -> x.play(0, bad, 0, 60));
    }
    is.eq("none by a throw", x.many(5), 0);
    is.eq("the first of both", x.play(0, 0, 0, 60), 2);
    is.eq("the last of both", x.play(7, 13, 0, 60), 0);
    is.eq("its LISTENER", x.ofPlay(1, 0), 7);
    is.eq("its TRACK", x.ofPlay(1, 1), 13);
  }

  private static void minuteIs0ToNow() {
    for (int now : new int[] {0, 1, MONTH - 1, MONTH, LAST}) {
      PlayPool x = Houses.keptSong(now);
      for (int bad : new int[] {MIN, -1, now + 1, 100000, MAX}) {
        is.argument("minute " + bad + " in " + now, () -> x.play(0, 0, bad, 60));
      }
      is.eq("none by a throw", x.many(5), 0);
      is.eq("minute NOW, " + now, x.play(0, 0, now, 60), 0);
      is.eq("its minute", x.ofPlay(0, 2), now);
    }
    PlayPool y = Houses.keptSong(MONTH - 1);
    is.eq("the first minute of all", y.play(0, 0, 0, 60), 0);
    is.eq("its minute", y.ofPlay(0, 2), 0);
  }

  private static void secondsAre0To600() {
    PlayPool x = Houses.oneSong(0);
    for (int bad : new int[] {MIN, -1, 601, MAX}) {
      is.argument("SECONDS " + bad, () -> x.play(0, 0, 0, bad));
    }
    is.eq("none by a throw", x.many(5), 1);
    is.eq("the least", x.play(0, 0, 0, 0), 1);
    is.eq("the most", x.play(0, 0, 0, 600), 0);
    is.eq("the least", x.ofPlay(1, 3), 0);
    is.eq("the most", x.ofPlay(2, 3), 600);
  }

  private static void offlineNeedsThePhone() {
    PlayPool x = Houses.songs(4);
    x.listener(0, 0);
    x.listener(0, 0);
    x.pass(100);
    is.state("a minute earlier", () -> x.play(0, 0, 99, 60));
    is.state("the first minute", () -> x.play(0, 0, 0, 60));
    is.eq("online", x.play(0, 0, 100, 60), 0);
    x.keep(0, 0);
    is.eq("KEPT by now", x.play(0, 0, 99, 60), 0);
    is.eq("KEPT by now", x.play(0, 0, 0, 60), 0);
    is.state("on the PHONE of another", () -> x.play(1, 0, 99, 60));
    for (int track = 1; track <= 3; track++) {
      x.keep(0, track);
    }
    is.state("gone by now", () -> x.play(0, 0, 99, 60));
    is.eq("gone, but online", x.play(0, 0, 100, 60), 0);
  }

  private static void offlineFromTheFirstMinuteOfAMonth() {
    for (int now : new int[] {MONTH + 1, 2 * MONTH - 1}) {
      PlayPool x = Houses.keptSong(now);
      is.eq("the first minute, in " + now, x.play(0, 0, MONTH, 60), 0);
      is.eq("not CLOSED", x.ofPlay(0, 5), 0);
      is.state("the last one of the MONTH before", () -> x.play(0, 0, MONTH - 1, 60));
      is.state("the first one of all", () -> x.play(0, 0, 0, 60));
      is.eq("one alone", x.many(5), 1);
    }
  }

  private static void offlineNotOfAClosedMonth() {
    PlayPool x = Houses.keptSong(MONTH - 1);
    is.eq("a minute ahead of the end", x.play(0, 0, MONTH - 2, 60), 0);
    is.eq("the last minute", x.play(0, 0, MONTH - 1, 60), 0);
    x.pass(1);
    is.state("CLOSED, though KEPT", () -> x.play(0, 0, MONTH - 1, 60));
    is.state("CLOSED, though KEPT", () -> x.play(0, 0, MONTH - 2, 60));
    is.eq("the first minute", x.play(0, 0, MONTH, 60), 0);
    is.eq("CLOSED", x.ofPlay(1, 5), 1);
    is.eq("not CLOSED", x.ofPlay(2, 5), 0);
  }

  private static void offlineAtTheEndOfAllMinutes() {
    PlayPool x = Houses.keptSong(LAST);
    is.eq("the first minute of the last MONTH", x.play(0, 0, 6 * MONTH, 60), 0);
    is.eq("the last minute but one", x.play(0, 0, LAST - 1, 60), 0);
    is.state("CLOSED", () -> x.play(0, 0, 6 * MONTH - 1, 60));
    is.eq("the last MONTH is not CLOSED", x.ofPlay(0, 5), 0);
  }

  private static void playsAreAtMost130() {
    PlayPool x = Houses.keptSong(1);
    for (int i = 0; i < 130; i++) {
      int beyond = i;
      is.index("not there yet", () -> x.ofPlay(beyond, 0));
      is.eq("PLAY " + i, x.play(0, 0, i % 2, i < 129 ? 29 : 30), i < 129 ? 1 : 0);
      is.eq("how many", x.many(5), i + 1);
    }
    is.state("a 131st, online", () -> x.play(0, 0, 1, 60));
    is.state("a 131st, offline", () -> x.play(0, 0, 0, 60));
    is.state("a 131st that would not COUNT", () -> x.play(0, 0, 1, 0));
    is.eq("130 of them", x.many(5), 130);
    is.eq("the first one", x.ofPlay(0, 4), 1);
    is.eq("the last one", x.ofPlay(129, 4), 0);
    is.index("there is no 131st", () -> x.ofPlay(130, 0));
  }

  private static void playsAreAtMost130Ever() {
    PlayPool x = Houses.keptSong(MONTH - 1);
    Houses.plays(x, 0, 0, MONTH - 1, 129);
    x.pass(MONTH);
    is.eq("the 130th, in another MONTH", x.play(0, 0, 2 * MONTH - 1, 60), 0);
    is.state("a 131st", () -> x.play(0, 0, 2 * MONTH - 1, 60));
    x.pass(1);
    is.state("a 131st, as two MONTHS are CLOSED", () -> x.play(0, 0, 2 * MONTH, 60));
    is.eq("130 of them", x.ofListener(0, 4), 130);
  }

  // ---- promise 12: the REASONS

  private static void shortIsBelow30() {
    PlayPool x = Houses.songs(1);
    x.listener(0, 0);
    int[] seconds = {0, 1, 28, 29, 30, 31, 599, 600};
    for (int one : seconds) {
      is.eq(one + " SECONDS", x.play(0, 0, 0, one), one < 30 ? 1 : 0);
    }
  }

  private static void eachReasonAheadOfTheNext() {
    PlayPool x = Houses.noWindow(0);
    x.down(0, true);
    x.flag(0, true);
    is.eq("1 to 4", x.play(0, 0, 0, 29), 1);
    is.eq("2 to 4", x.play(0, 0, 0, 30), 2);
    x.window(0, 0, 0, 0);
    is.eq("1, 3 and 4", x.ofPlay(0, 4), 1);
    is.eq("3 and 4", x.ofPlay(1, 4), 3);
    x.down(0, false);
    is.eq("1 and 4", x.ofPlay(0, 4), 1);
    is.eq("4", x.ofPlay(1, 4), 4);
    x.flag(0, false);
    is.eq("1", x.ofPlay(0, 4), 1);
    is.eq("none", x.ofPlay(1, 4), 0);
  }

  // Four TRACKS of one RECORDING; by the first of them five PLAYS COUNT.
  private static void tooOftenBehindTheOthers() {
    PlayPool x = new PlayPool();
    for (int track = 0; track < 4; track++) {
      x.track(5);
      x.window(track, track == 1 ? 1 : 0, 0, 0);
    }
    x.listener(0, 0);
    x.down(2, true);
    Houses.plays(x, 0, 0, 0, 5);
    is.eq("1 and 5", x.play(0, 3, 0, 29), 1);
    is.eq("2 and 5", x.play(0, 1, 0, 60), 2);
    is.eq("3 and 5", x.play(0, 2, 0, 60), 3);
    is.eq("5", x.play(0, 3, 0, 60), 5);
    x.window(1, 0, 0, 0);
    x.down(2, false);
    is.eq("5 by then", x.ofPlay(6, 4), 5);
    is.eq("5 by then", x.ofPlay(7, 4), 5);
    x.flag(0, true);
    is.eq("4, as none COUNTS", x.ofPlay(8, 4), 4);
    is.eq("1 still", x.ofPlay(5, 4), 1);
  }

  private static void flaggedFromTheFirstPlayOn() {
    PlayPool x = Houses.keptSong(20);
    x.play(0, 0, 0, 60);
    x.play(0, 0, 20, 60);
    x.flag(0, true);
    is.eq("the first minute", x.ofPlay(0, 4), 4);
    is.eq("NOW", x.ofPlay(1, 4), 4);
    is.eq("a new one", x.play(0, 0, 19, 60), 4);
    x.flag(0, false);
    is.eq("all COUNT", x.many(6), 3);
  }

  private static void closedReasonsStay() {
    PlayPool x = new PlayPool();
    x.track(0);
    x.track(1);
    x.track(2);
    x.listener(0, 0);
    x.listener(0, 0);
    x.window(0, 0, 0, LAST);
    x.window(2, 0, 0, LAST);
    x.down(2, true);
    x.flag(1, true);
    Houses.plays(x, 0, 0, 0, 6);
    x.play(0, 0, 0, 29);
    x.play(0, 1, 0, 60);
    x.play(0, 2, 0, 60);
    x.play(1, 0, 0, 60);
    x.pass(MONTH);
    x.window(1, 0, 0, LAST);
    x.down(2, false);
    x.down(0, true);
    x.flag(1, false);
    x.flag(0, true);
    int[] due = {0, 0, 0, 0, 0, 5, 1, 2, 3, 4};
    for (int play = 0; play < due.length; play++) {
      is.eq("CLOSED: PLAY " + play, x.ofPlay(play, 4), due[play]);
    }
  }

  // ---- promise 12: five a DAY

  private static void fiveEarlierOnes() {
    PlayPool x = Houses.keptSong(8);
    for (int minute = 0; minute <= 8; minute++) {
      is.eq("with " + minute + " earlier ones", x.play(0, 0, minute, 60), minute < 5 ? 0 : 5);
    }
  }

  private static void fiveOfOneMinuteByNumber() {
    PlayPool x = Houses.keptSong(8);
    for (int play = 0; play < 8; play++) {
      is.eq("with " + play + " of smaller numbers", x.play(0, 0, 3, 60), play < 5 ? 0 : 5);
    }
    for (int play = 0; play < 8; play++) {
      is.eq("PLAY " + play, x.ofPlay(play, 4), play < 5 ? 0 : 5);
    }
  }

  private static void fiveByMinuteAheadOfNumber() {
    PlayPool x = Houses.keptSong(8);
    for (int minute = 8; minute >= 2; minute--) {
      is.eq("the earliest one COUNTS", x.play(0, 0, minute, 60), 0);
    }
    int[] due = {5, 5, 0, 0, 0, 0, 0};
    for (int play = 0; play < due.length; play++) {
      is.eq("in minute " + (8 - play), x.ofPlay(play, 4), due[play]);
    }
    is.eq("as early as the fifth, by number behind it", x.play(0, 0, 6, 60), 5);
    is.eq("a minute ahead of the fifth", x.play(0, 0, 5, 60), 0);
    is.eq("the fifth is out", x.ofPlay(2, 4), 5);
    is.eq("the fourth is not", x.ofPlay(3, 4), 0);
  }

  private static void fiveThatCount() {
    PlayPool x = new PlayPool();
    for (int track = 0; track < 3; track++) {
      x.track(7);
    }
    x.window(0, 0, 0, 0);
    x.window(1, 0, 0, 0);
    x.listener(0, 0);
    x.down(1, true);
    for (int i = 0; i < 5; i++) {
      is.eq("DOWN", x.play(0, 1, 0, 60), 3);
      is.eq("too short", x.play(0, 0, 0, 29), 1);
      is.eq("not ALLOWED", x.play(0, 2, 0, 60), 2);
      is.eq("of five", x.play(0, 0, 0, 30), 0);
    }
    is.eq("a sixth", x.play(0, 0, 0, 30), 5);
    is.eq("a seventh", x.play(0, 0, 0, 30), 5);
    is.eq("five COUNT", x.ofRecording(7, 5), 5);
  }

  private static void fiveOfOneRecordingByOneListener() {
    PlayPool x = new PlayPool();
    x.track(0);
    x.track(1);
    x.track(0);
    for (int track = 0; track < 3; track++) {
      x.window(track, 0, 0, 0);
    }
    x.listener(0, 0);
    x.listener(0, 0);
    for (int i = 0; i < 5; i++) {
      is.eq("of two TRACKS", x.play(0, i < 4 ? 0 : 2, 0, 60), 0);
      is.eq("of another RECORDING", x.play(0, 1, 0, 60), 0);
      is.eq("by another LISTENER", x.play(1, 2, 0, 60), 0);
    }
    is.eq("a sixth, of the first TRACK", x.play(0, 0, 0, 60), 5);
    is.eq("a sixth, of the last TRACK", x.play(0, 2, 0, 60), 5);
    is.eq("a sixth, of another RECORDING", x.play(0, 1, 0, 60), 5);
    is.eq("a sixth, by another LISTENER", x.play(1, 0, 0, 60), 5);
    is.eq("a first, by another LISTENER", x.play(1, 1, 0, 60), 0);
  }

  private static void fiveOfTheFirstDay() {
    PlayPool x = Houses.songs(1);
    x.listener(0, 0);
    Houses.plays(x, 0, 0, 0, 5);
    is.eq("the first minute of the DAY", x.play(0, 0, 0, 60), 5);
    x.pass(1439);
    is.eq("the last minute of the DAY", x.play(0, 0, 1439, 60), 5);
    x.pass(1);
    is.eq("the first minute of the next DAY", x.play(0, 0, 1440, 60), 0);
  }

  private static void fiveOfEveryDay() {
    for (int day = 1; day <= 69; day++) {
      PlayPool x = Houses.keptSong(Math.min(day * 1440 + 1439, LAST));
      int first = day * 1440;
      Houses.plays(x, 0, 0, first, 5);
      is.eq("a sixth, DAY " + day, x.play(0, 0, x.many(0), 60), 5);
      is.eq("five COUNT", x.reasons(0), 5);
      if (day % 10 != 0) {
        is.eq("the last minute of the DAY before", x.play(0, 0, first - 1, 60), 0);
        is.eq("five of the next DAY COUNT", x.ofPlay(4, 4), 0);
      }
    }
  }

  private static void fiveOfTheLastDay() {
    PlayPool x = Houses.keptSong(99360);
    Houses.plays(x, 0, 0, 99359, 5);
    is.eq("a sixth of DAY 68", x.play(0, 0, 99359, 60), 5);
    is.eq("the first minute of DAY 69", x.play(0, 0, 99360, 60), 0);
    x.pass(LAST - 99360);
    Houses.plays(x, 0, 0, LAST, 4);
    is.eq("a sixth of DAY 69", x.play(0, 0, LAST, 60), 5);
    is.eq("the fifth of DAY 69", x.ofPlay(10, 4), 0);
  }

  private static void fiveOverTheEndOfAMonth() {
    PlayPool x = Houses.keptSong(MONTH - 1);
    Houses.plays(x, 0, 0, MONTH - 1, 5);
    is.eq("a sixth in the last minute", x.play(0, 0, MONTH - 1, 60), 5);
    x.pass(1);
    for (int i = 0; i < 5; i++) {
      is.eq("in the first minute of the next", x.play(0, 0, MONTH, 60), 0);
    }
    is.eq("a sixth in the first minute", x.play(0, 0, MONTH, 60), 5);
    is.eq("CLOSED: the fifth", x.ofPlay(4, 4), 0);
    is.eq("CLOSED: the sixth", x.ofPlay(5, 4), 5);
  }

  // Two TRACKS of one RECORDING.
  private static void fiveWhereOneFallsOut() {
    PlayPool x = new PlayPool();
    x.track(0);
    x.track(0);
    x.window(0, 0, 0, 0);
    x.window(1, 0, 0, 0);
    x.listener(0, 0);
    x.play(0, 0, 0, 60);
    Houses.plays(x, 0, 1, 0, 6);
    is.eq("the fifth", x.ofPlay(4, 4), 0);
    is.eq("the sixth", x.ofPlay(5, 4), 5);
    x.down(0, true);
    is.eq("the first falls out", x.ofPlay(0, 4), 3);
    is.eq("the sixth COUNTS by that", x.ofPlay(5, 4), 0);
    is.eq("the seventh does not", x.ofPlay(6, 4), 5);
    x.down(0, false);
    is.eq("the sixth does not any more", x.ofPlay(5, 4), 5);
  }

  private static void fiveWhereOneComesIn() {
    PlayPool x = new PlayPool();
    x.track(0);
    x.track(0);
    x.window(1, 0, 0, 0);
    x.listener(0, 0);
    x.play(0, 0, 0, 60);
    Houses.plays(x, 0, 1, 0, 5);
    is.eq("the fifth that COUNTS", x.ofPlay(5, 4), 0);
    x.window(0, 0, 0, 0);
    is.eq("the first comes in", x.ofPlay(0, 4), 0);
    is.eq("the fourth behind it COUNTS", x.ofPlay(4, 4), 0);
    is.eq("the fifth behind it does not", x.ofPlay(5, 4), 5);
  }

  // ---- promise 13

  private static void minutesOfPass() {
    PlayPool x = new PlayPool();
    for (int bad : new int[] {MIN, -1, 0, 20001, MAX}) {
      is.argument("pass(" + bad + ")", () -> x.pass(bad));
      is.eq("NOW at first", x.many(0), 0);
    }
    is.eq("the fewest", x.pass(1), 0);
    is.eq("NOW", x.many(0), 1);
    is.eq("the most", x.pass(20000), 0);
    is.eq("NOW", x.many(0), 20001);
  }

  private static void nowIsAtMost99999() {
    PlayPool x = new PlayPool();
    Houses.passTo(x, 80000);
    is.state("to 100000", () -> x.pass(20000));
    is.eq("not by a throw", x.many(0), 80000);
    is.eq("to 99998", x.pass(19998), 0);
    is.state("to 100000", () -> x.pass(2));
    is.state("far beyond", () -> x.pass(20000));
    is.eq("not by a throw", x.many(0), 99998);
    is.eq("to 99999", x.pass(1), 0);
    is.state("to 100000", () -> x.pass(1));
    is.argument("no minutes", () -> x.pass(0));
    is.eq("the last minute", x.many(0), LAST);
    PlayPool y = new PlayPool();
    Houses.passTo(y, 79999);
    is.eq("to 99999 at once", y.pass(20000), 0);
    is.eq("the last minute", y.many(0), LAST);
  }

  private static void endOfEachMonth() {
    PlayPool x = new PlayPool();
    x.listener(1, 2);
    for (int month = 0; month <= 5; month++) {
      is.eq("the first minute of a MONTH", x.many(0), month * MONTH);
      x.pass(MONTH - 1);
      is.eq("in its last minute", x.many(1), month);
      is.eq("FEES in its last minute", x.ofListener(0, 7), 500 * month);
      x.pass(1);
      is.eq("as the next one begins", x.many(1), month + 1);
      is.eq("FEES then", x.ofListener(0, 7), 500 * (month + 1));
      is.eq("the CARRY then", x.many(15), 350 * (month + 1));
    }
    Houses.passTo(x, LAST);
    is.eq("the last one is not CLOSED", x.many(1), 6);
    is.eq("no FEE of it", x.ofListener(0, 7), 3000);
  }

  private static void endsOfMonthsInOnePass() {
    int[][] passes = {{0, 14399, 0}, {0, 14400, 1}, {0, 20000, 1}, {14399, 1, 1},
        {14399, 14400, 1}, {14399, 14401, 2}, {8799, 20000, 1}, {8800, 20000, 2},
        {14400, 14399, 0}, {14400, 14400, 1}, {86399, 1, 1}, {79999, 20000, 1}, {71999, 14401, 2}};
    for (int[] one : passes) {
      PlayPool x = new PlayPool();
      x.listener(0, 0);
      Houses.passTo(x, one[0]);
      int before = x.many(1);
      is.eq("pass", x.pass(one[1]), 0);
      String what = " from " + one[0] + " by " + one[1];
      is.eq("MONTHS CLOSED" + what, x.many(1) - before, one[2]);
      is.eq("FEES" + what, x.ofListener(0, 7), 200 * (before + one[2]));
      is.eq("CARRY" + what, x.many(14), 140 * (before + one[2]));
    }
  }

  private static void paidByThatPassAlone() {
    PlayPool x = Houses.songs(2);
    x.listener(0, 1);
    x.claim(0, 0, 100);
    x.claim(1, 4, 100);
    Houses.plays(x, 0, 0, 0, 1);
    is.eq("a minute ahead of the end", x.pass(MONTH - 1), 0);
    is.eq("as the MONTH is CLOSED", x.pass(1), 700);
    Houses.plays(x, 0, 1, MONTH, 1);
    is.eq("to another PARTY, without that of before", x.pass(MONTH), 700);
    is.eq("a MONTH without PLAYS", x.pass(MONTH), 0);
    is.eq("PAID ever", x.many(12), 1400);
    x.pass(MONTH - 1);
    Houses.plays(x, 0, 0, 4 * MONTH - 1, 1);
    is.eq("by the first of two ends, with the CARRY", x.pass(MONTH + 1), 1400);
    is.eq("MONTHS that are CLOSED", x.many(1), 5);
    is.eq("by the second one nothing", x.many(14), 700);
  }
}
