/** The boundary cases of "Recordings and rights" and of promises 1 to 7. */
public final class RightsEdgesTest {
  private static final int MIN = Integer.MIN_VALUE;
  private static final int MAX = Integer.MAX_VALUE;
  private static final Checks is = new Checks();

  public static void main(String[] args) {
    emptyHouseHasNothing();
    emptyHouseRefusesNumbers();
    emptyHousePasses();
    recordingsAre0To9();
    tracksAreAtMost14();
    allTracksOfOneRecording();
    tracksAndLandsOfWindows();
    minutesOfWindows();
    windowsAreAtMost30();
    windowHasBothItsMinutes();
    windowOfTheFirstMinute();
    windowOfTheLastMinute();
    windowsWithAGap();
    windowIsOfOneLandAndOneTrack();
    windowToldInTheLastMinuteOfAMonth();
    windowToldAMinuteLater();
    downFromMinute0();
    downFromTheLastMinute();
    downFromThatMinuteOn();
    downFromAnotherMinute();
    downOverTheEndOfAMonth();
    putBackInTheLastMinuteOfAMonth();
    downIsSoAlready();
    claimsAre0To100();
    claimsAreReplaced();
    conflictIsAbove100();
    conflictOfFiveParties();
    advancesAre1To99999();
    advancesOfAWholeRun();
    rulesAre0And1();
    ruleOfTheEndOfAMonth();
    is.end("the edges of promises 1 to 7");
  }

  // ---- promise 1

  private static void emptyHouseHasNothing() {
    PlayPool x = new PlayPool();
    for (int what = 0; what <= 17; what++) {
      is.eq("empty: many(" + what + ")", x.many(what), 0);
    }
    for (int reason = 0; reason <= 5; reason++) {
      is.eq("empty: reasons(" + reason + ")", x.reasons(reason), 0);
    }
    is.eqDouble("empty: meanSeconds", x.meanSeconds(), 0.0);
    for (int land = 0; land <= 3; land++) {
      is.eq("empty: chart", x.chart(land, 0), -1);
      is.eq("empty: chart", x.chart(land, MAX), -1);
    }
    for (int recording = 0; recording <= 9; recording++) {
      for (int what = 0; what <= 6; what++) {
        is.eq("empty: ofRecording", x.ofRecording(recording, what), 0);
      }
      is.eq("empty: wouldGet", x.wouldGet(recording, 0), 0);
      is.eq("empty: wouldGet", x.wouldGet(recording, 1), 0);
      is.eq("empty: alike", x.alike(recording, recording == 0 ? 9 : 0), 0);
    }
    for (int party = 0; party <= 4; party++) {
      for (int what = 0; what <= 3; what++) {
        is.eq("empty: ofParty", x.ofParty(party, what), 0);
      }
      is.eq("empty: wouldPay", x.wouldPay(party, 0), 0);
      is.eq("empty: wouldPay", x.wouldPay(party, 1), 0);
    }
  }

  private static void emptyHouseRefusesNumbers() {
    PlayPool x = new PlayPool();
    is.index("empty: window", () -> x.window(0, 0, 0, 0));
    is.index("empty: down", () -> x.down(0, true));
    is.index("empty: down", () -> x.down(0, false));
    is.index("empty: plan", () -> x.plan(0, 0));
    is.index("empty: flag", () -> x.flag(0, true));
    is.index("empty: keep", () -> x.keep(0, 0));
    is.index("empty: play", () -> x.play(0, 0, 0, 60));
    is.index("empty: ofTrack", () -> x.ofTrack(0, 0));
    is.index("empty: ofListener", () -> x.ofListener(0, 0));
    is.index("empty: ofPlay", () -> x.ofPlay(0, 0));
    is.index("empty: next", () -> x.next(0));
    x.track(0);
    is.index("no LISTENER: keep", () -> x.keep(0, 0));
    is.index("no LISTENER: play", () -> x.play(0, 0, 0, 60));
    PlayPool y = new PlayPool();
    y.listener(0, 0);
    is.index("no TRACK: keep", () -> y.keep(0, 0));
    is.index("no TRACK: play", () -> y.play(0, 0, 0, 60));
    is.index("no PLAY: ofPlay", () -> y.ofPlay(0, 0));
    is.eq("no TRACK: next", y.next(0), -1);
  }

  private static void emptyHousePasses() {
    PlayPool x = new PlayPool();
    is.eq("empty: nothing is PAID", Houses.passTo(x, 99999), 0);
    is.eq("empty: NOW", x.many(0), 99999);
    is.eq("empty: MONTHS that are CLOSED", x.many(1), 6);
    for (int what = 2; what <= 17; what++) {
      is.eq("empty, at the end: many(" + what + ")", x.many(what), 0);
    }
  }

  // ---- promise 2

  private static void recordingsAre0To9() {
    PlayPool x = new PlayPool();
    for (int bad : new int[] {MIN, -1, 10, MAX}) {
      is.index("track(" + bad + ")", () -> x.track(bad));
    }
    is.eq("the lowest RECORDING", x.track(0), 0);
    is.eq("the highest RECORDING", x.track(9), 1);
    is.eq("the lowest RECORDING", x.ofTrack(0, 0), 0);
    is.eq("the highest RECORDING", x.ofTrack(1, 0), 9);
  }

  private static void tracksAreAtMost14() {
    PlayPool x = new PlayPool();
    for (int i = 0; i < 14; i++) {
      int beyond = i;
      is.index("not there yet", () -> x.ofTrack(beyond, 0));
      is.eq("numbered from 0", x.track(i % 10), i);
      is.eq("how many", x.many(2), i + 1);
    }
    is.state("a 15th", () -> x.track(0));
    is.state("a 15th", () -> x.track(9));
    is.eq("14 of them", x.many(2), 14);
    is.eq("the last one", x.ofTrack(13, 0), 3);
    is.index("there is no 15th", () -> x.ofTrack(14, 0));
    is.index("there is no 15th", () -> x.down(14, true));
    is.index("there is no 15th", () -> x.window(14, 0, 0, 0));
  }

  private static void allTracksOfOneRecording() {
    PlayPool x = new PlayPool();
    for (int i = 0; i < 14; i++) {
      x.track(9);
    }
    is.eq("TRACKS of it", x.ofRecording(9, 4), 14);
    is.eq("TRACKS of another", x.ofRecording(8, 4), 0);
    x.listener(3, 2);
    x.window(13, 3, 0, 0);
    is.eq("next, by the last of them", x.next(0), 9);
    is.eq("play of the last of them", x.play(0, 13, 0, 60), 0);
    is.eq("its PLAYS that COUNT", x.ofRecording(9, 5), 1);
  }

  // ---- promise 3

  private static void tracksAndLandsOfWindows() {
    PlayPool x = new PlayPool();
    for (int i = 0; i < 14; i++) {
      x.track(i % 10);
    }
    for (int bad : new int[] {MIN, -1, 14, MAX}) {
      is.index("window of TRACK " + bad, () -> x.window(bad, 0, 0, 0));
    }
    for (int bad : new int[] {MIN, -1, 4, MAX}) {
      is.index("window in LAND " + bad, () -> x.window(0, bad, 0, 0));
    }
    is.eq("the first of both", x.window(0, 0, 0, 0), 1);
    is.eq("the last of both", x.window(13, 3, 0, 0), 2);
    is.eq("ALLOWED in LAND 0", x.ofTrack(0, 2), 1);
    is.eq("ALLOWED in LAND 3", x.ofTrack(13, 2), 8);
    is.eq("another one is not", x.ofTrack(1, 2), 0);
    is.eq("another one is not", x.ofTrack(12, 2), 0);
  }

  private static void minutesOfWindows() {
    PlayPool x = new PlayPool();
    x.track(0);
    for (int bad : new int[] {MIN, -1, 100000, MAX}) {
      is.argument("from " + bad, () -> x.window(0, 0, bad, 99999));
      is.argument("from and to " + bad, () -> x.window(0, 0, bad, bad));
    }
    for (int bad : new int[] {MIN, -1, 0, 499, 100000, MAX}) {
      is.argument("from 500 to " + bad, () -> x.window(0, 0, 500, bad));
    }
    is.argument("from 0 to -1", () -> x.window(0, 0, 0, -1));
    is.argument("from 99999 to 99998", () -> x.window(0, 0, 99999, 99998));
    is.argument("from 99999 to 100000", () -> x.window(0, 0, 99999, 100000));
    is.eq("none by a throw", x.many(3), 0);
    is.eq("from the first to the last", x.window(0, 0, 0, 99999), 1);
    is.eq("the first alone", x.window(0, 0, 0, 0), 2);
    is.eq("the last alone", x.window(0, 0, 99999, 99999), 3);
    is.eq("one alone", x.window(0, 0, 500, 500), 4);
    is.eq("two", x.window(0, 0, 500, 501), 5);
    x.pass(1000);
    is.eq("one that is over", x.window(0, 0, 999, 999), 6);
  }

  private static void windowsAreAtMost30() {
    PlayPool x = new PlayPool();
    x.track(0);
    x.track(1);
    x.listener(2, 0);
    is.eq("the first", x.window(0, 3, 0, 0), 1);
    for (int i = 2; i <= 29; i++) {
      is.eq("of 30", x.window(0, 1, 0, 0), i);
    }
    is.eq("not ALLOWED by 29", x.play(0, 1, 0, 60), 2);
    is.eq("the 30th", x.window(1, 2, 0, 0), 30);
    is.eq("the 30th serves", x.ofPlay(0, 4), 0);
    is.eq("the 30th serves", x.ofTrack(1, 2), 4);
    is.eq("the first serves still", x.ofTrack(0, 2), 2 + 8);
    is.state("a 31st", () -> x.window(1, 0, 0, 0));
    is.state("a 31st, the same", () -> x.window(1, 2, 0, 0));
    is.eq("30 of them", x.many(3), 30);
    is.eq("the 31st does not serve", x.ofTrack(1, 2), 4);
  }

  private static void windowHasBothItsMinutes() {
    for (int minute : new int[] {0, 9, 10, 11, 19, 20, 21, 99999}) {
      PlayPool x = Houses.noWindow(0);
      x.window(0, 0, 10, 20);
      Houses.passTo(x, minute);
      boolean in = minute >= 10 && minute <= 20;
      String where = " in minute " + minute + " of 10 to 20";
      is.eq("LANDS" + where, x.ofTrack(0, 2), in ? 1 : 0);
      is.eq("next" + where, x.next(0), in ? 0 : -1);
      is.eq("play" + where, x.play(0, 0, minute, 60), in ? 0 : 2);
      if (in) {
        is.eq("keep" + where, x.keep(0, 0), -1);
      } else {
        is.state("keep" + where, () -> x.keep(0, 0));
      }
    }
  }

  private static void windowOfTheFirstMinute() {
    PlayPool x = Houses.noWindow(0);
    x.window(0, 0, 0, 0);
    is.eq("in minute 0", x.ofTrack(0, 2), 1);
    is.eq("in minute 0", x.play(0, 0, 0, 60), 0);
    is.eq("in minute 0", x.keep(0, 0), -1);
    x.pass(1);
    is.eq("in minute 1", x.ofTrack(0, 2), 0);
    is.eq("in minute 1", x.play(0, 0, 1, 60), 2);
    is.eq("offline in minute 0", x.play(0, 0, 0, 60), 0);
  }

  private static void windowOfTheLastMinute() {
    PlayPool x = Houses.noWindow(0);
    x.window(0, 0, 99999, 99999);
    Houses.passTo(x, 99998);
    is.eq("in minute 99998", x.ofTrack(0, 2), 0);
    is.eq("in minute 99998", x.play(0, 0, 99998, 60), 2);
    is.state("in minute 99998", () -> x.keep(0, 0));
    x.pass(1);
    is.eq("in minute 99999", x.ofTrack(0, 2), 1);
    is.eq("in minute 99999", x.play(0, 0, 99999, 60), 0);
    is.eq("in minute 99999", x.keep(0, 0), -1);
    is.eq("offline in minute 99998", x.play(0, 0, 99998, 60), 2);
  }

  private static void windowsWithAGap() {
    PlayPool x = Houses.noWindow(0);
    x.window(0, 0, 4, 5);
    x.window(0, 0, 0, 2);
    x.window(0, 0, 1, 1);
    int[] due = {0, 0, 0, 2, 0, 0, 2};
    for (int minute = 0; minute <= 6; minute++) {
      is.eq("LANDS in minute " + minute, x.ofTrack(0, 2), due[minute] == 0 ? 1 : 0);
      is.eq("play in minute " + minute, x.play(0, 0, minute, 60), due[minute]);
      x.pass(1);
    }
  }

  private static void windowIsOfOneLandAndOneTrack() {
    PlayPool x = new PlayPool();
    x.track(0);
    x.track(0);
    for (int land = 0; land <= 3; land++) {
      x.listener(land, 0);
    }
    for (int land = 0; land <= 3; land++) {
      x.window(0, land, 0, 99999);
      is.eq("LANDS", x.ofTrack(0, 2), (2 << land) - 1);
      is.eq("LANDS of the other TRACK", x.ofTrack(1, 2), 0);
      for (int listener = 0; listener <= 3; listener++) {
        is.eq("play in LAND " + listener, x.play(listener, 0, 0, 60), listener <= land ? 0 : 2);
        is.eq("the other TRACK", x.play(listener, 1, 0, 60), 2);
      }
    }
  }

  private static PlayPool heardInBothEndsOfAMonth() {
    PlayPool x = Houses.noWindow(0);
    x.play(0, 0, 0, 60);
    x.pass(14399);
    x.play(0, 0, 14399, 60);
    return x;
  }

  private static void windowToldInTheLastMinuteOfAMonth() {
    PlayPool x = heardInBothEndsOfAMonth();
    is.eq("not ALLOWED yet", x.reasons(2), 2);
    x.window(0, 0, 0, 99999);
    is.eq("not CLOSED, the first minute", x.ofPlay(0, 4), 0);
    is.eq("not CLOSED, the last minute", x.ofPlay(1, 4), 0);
    x.pass(1);
    is.eq("as they were", x.reasons(0), 2);
    is.eq("got by them", x.ofRecording(0, 3), 140);
  }

  private static void windowToldAMinuteLater() {
    PlayPool x = heardInBothEndsOfAMonth();
    x.pass(1);
    x.window(0, 0, 0, 99999);
    is.eq("CLOSED, the first minute", x.ofPlay(0, 4), 2);
    is.eq("CLOSED, the last minute", x.ofPlay(1, 4), 2);
    is.eq("the next MONTH", x.play(0, 0, 14400, 60), 0);
    is.eq("nothing was got", x.ofRecording(0, 3), 0);
  }

  // ---- promise 4

  private static void downFromMinute0() {
    PlayPool x = Houses.songs(1);
    x.listener(0, 0);
    is.eq("it was not DOWN", x.down(0, true), -1);
    is.eq("DOWN from 0, which is not NONE", x.ofTrack(0, 1), 0);
    is.eq("it does not COUNT", x.play(0, 0, 0, 60), 3);
    is.eq("not to hear", x.next(0), -1);
    is.state("not to KEEP", () -> x.keep(0, 0));
    is.state("it is so already", () -> x.down(0, true));
    is.eq("it was DOWN from 0", x.down(0, false), 0);
    is.eq("not DOWN", x.ofTrack(0, 1), -1);
    is.eq("it COUNTS", x.ofPlay(0, 4), 0);
    is.eq("to KEEP", x.keep(0, 0), -1);
  }

  private static void downFromTheLastMinute() {
    PlayPool x = Houses.keptSong(99999);
    is.eq("it was not DOWN", x.down(0, true), -1);
    is.eq("DOWN from the last minute", x.ofTrack(0, 1), 99999);
    is.eq("in the last minute", x.play(0, 0, 99999, 60), 3);
    is.eq("a minute ahead of it", x.play(0, 0, 99998, 60), 0);
    is.eq("put back", x.down(0, false), 99999);
    is.eq("it COUNTS", x.ofPlay(0, 4), 0);
  }

  private static void downFromThatMinuteOn() {
    PlayPool x = Houses.keptSong(10);
    x.down(0, true);
    is.eq("in that minute", x.play(0, 0, 10, 60), 3);
    is.eq("a minute earlier", x.play(0, 0, 9, 60), 0);
    is.eq("in the first minute", x.play(0, 0, 0, 60), 0);
    x.pass(1);
    is.eq("a minute later", x.play(0, 0, 11, 60), 3);
    is.eq("in that minute, offline", x.play(0, 0, 10, 60), 3);
    is.eq("not to hear a minute later", x.next(0), -1);
    is.eq("DOWN from that minute still", x.ofTrack(0, 1), 10);
  }

  private static void downFromAnotherMinute() {
    PlayPool x = Houses.keptSong(10);
    x.play(0, 0, 10, 60);
    x.down(0, true);
    x.pass(1);
    x.play(0, 0, 11, 60);
    x.pass(1);
    is.eq("it was DOWN from 10", x.down(0, false), 10);
    is.eq("put back, and DOWN at once", x.down(0, true), -1);
    is.eq("DOWN from 12", x.ofTrack(0, 1), 12);
    is.eq("10 is not DOWN any more", x.ofPlay(0, 4), 0);
    is.eq("11 is not DOWN any more", x.ofPlay(1, 4), 0);
    is.eq("12 is", x.play(0, 0, 12, 60), 3);
  }

  private static void downOverTheEndOfAMonth() {
    PlayPool x = Houses.keptSong(14399);
    x.play(0, 0, 14399, 60);
    x.play(0, 0, 14398, 60);
    x.down(0, true);
    x.pass(1);
    is.eq("it was DOWN from the last minute", x.down(0, false), 14399);
    is.eq("CLOSED as DOWN", x.ofPlay(0, 4), 3);
    is.eq("CLOSED as it COUNTS", x.ofPlay(1, 4), 0);
    is.eq("DOWN in the first minute", x.down(0, true), -1);
    is.eq("the next MONTH", x.play(0, 0, 14400, 60), 3);
    is.eq("CLOSED as it COUNTS", x.ofPlay(1, 4), 0);
  }

  private static void putBackInTheLastMinuteOfAMonth() {
    PlayPool x = Houses.songs(1);
    x.listener(0, 1);
    x.down(0, true);
    x.play(0, 0, 0, 60);
    x.pass(14399);
    is.eq("it was DOWN from 0", x.down(0, false), 0);
    x.pass(1);
    is.eq("CLOSED as it COUNTS", x.ofPlay(0, 4), 0);
    is.eq("got by that", x.ofRecording(0, 3), 700);
  }

  private static void downIsSoAlready() {
    PlayPool x = new PlayPool();
    for (int i = 0; i < 14; i++) {
      x.track(0);
    }
    for (int bad : new int[] {MIN, -1, 14, MAX}) {
      is.index("down(" + bad + ", true)", () -> x.down(bad, true));
      is.index("down(" + bad + ", false)", () -> x.down(bad, false));
    }
    for (int track : new int[] {0, 13}) {
      is.state("not DOWN at first", () -> x.down(track, false));
      is.eq("down", x.down(track, true), -1);
      is.state("DOWN already", () -> x.down(track, true));
      is.eq("put back", x.down(track, false), 0);
      is.state("put back already", () -> x.down(track, false));
    }
    x.down(13, true);
    is.eq("the one ahead of it is not DOWN", x.ofTrack(12, 1), -1);
  }

  // ---- promise 5

  private static void claimsAre0To100() {
    PlayPool x = new PlayPool();
    for (int bad : new int[] {MIN, -1, 10, MAX}) {
      is.index("claim of RECORDING " + bad, () -> x.claim(bad, 0, 50));
    }
    for (int bad : new int[] {MIN, -1, 5, MAX}) {
      is.index("claim by PARTY " + bad, () -> x.claim(0, bad, 50));
    }
    for (int bad : new int[] {MIN, -1, 101, MAX}) {
      is.argument("claim of " + bad, () -> x.claim(0, 0, bad));
    }
    is.eq("nothing by a throw", x.ofRecording(0, 0), 0);
    is.eq("the least, of the first", x.claim(0, 0, 0), 0);
    is.eq("the most, of the first", x.claim(0, 0, 100), 100);
    is.eq("the least, of the last", x.claim(9, 4, 0), 0);
    is.eq("the most, of the last", x.claim(9, 4, 100), 100);
    is.eq("all CLAIMS of the last", x.ofRecording(9, 0), 100);
    is.eq("another has none", x.ofRecording(8, 0), 0);
  }

  private static void claimsAreReplaced() {
    PlayPool x = new PlayPool();
    is.eq("claim", x.claim(3, 1, 60), 60);
    is.eq("its CLAIM from now on", x.claim(3, 1, 50), 50);
    is.eq("the same again", x.claim(3, 1, 50), 50);
    is.eq("of another PARTY", x.claim(3, 2, 50), 100);
    is.eq("no CLAIM any more", x.claim(3, 1, 0), 50);
  }

  private static void conflictIsAbove100() {
    PlayPool x = new PlayPool();
    x.claim(9, 0, 100);
    is.eq("100 by one", x.ofRecording(9, 1), 0);
    x.claim(9, 4, 1);
    is.eq("101 by two", x.ofRecording(9, 1), 1);
    is.eq("another RECORDING", x.ofRecording(8, 1), 0);
    x.claim(9, 0, 99);
    is.eq("100 by two", x.ofRecording(9, 1), 0);
    x.claim(9, 4, 0);
    is.eq("99 by one", x.ofRecording(9, 1), 0);
  }

  private static void conflictOfFiveParties() {
    PlayPool x = new PlayPool();
    for (int party = 0; party <= 4; party++) {
      is.eq("20 each", x.claim(0, party, 20), 20 * (party + 1));
    }
    is.eq("100 by five", x.ofRecording(0, 1), 0);
    is.eq("101 by five", x.claim(0, 2, 21), 101);
    is.eq("101 by five", x.ofRecording(0, 1), 1);
    for (int party = 0; party <= 4; party++) {
      x.claim(0, party, 100);
    }
    is.eq("the most there can be", x.ofRecording(0, 0), 500);
    is.eq("500 by five", x.ofRecording(0, 1), 1);
  }

  // ---- promise 6

  private static void advancesAre1To99999() {
    PlayPool x = new PlayPool();
    for (int bad : new int[] {MIN, -1, 5, MAX}) {
      is.index("advance to PARTY " + bad, () -> x.advance(bad, 1));
    }
    for (int bad : new int[] {MIN, -1, 0, 100000, MAX}) {
      is.argument("advance of " + bad, () -> x.advance(0, bad));
    }
    is.eq("nothing by a throw", x.ofParty(0, 2), 0);
    is.eq("the least, to the first", x.advance(0, 1), 1);
    is.eq("the most, to the first", x.advance(0, 99999), 100000);
    is.eq("the most, to the last", x.advance(4, 99999), 99999);
    is.eq("the least, to the last", x.advance(4, 1), 100000);
    is.eq("another has none", x.ofParty(3, 2), 0);
  }

  private static void advancesOfAWholeRun() {
    PlayPool x = new PlayPool();
    for (int call = 1; call <= 511; call++) {
      is.eq("call " + call, x.advance(2, 99999), 99999 * call);
    }
    is.eq("the 512th call", x.ofParty(2, 2), 51099489);
  }

  // ---- promise 7

  private static void rulesAre0And1() {
    PlayPool x = new PlayPool();
    for (int bad : new int[] {MIN, -1, 2, MAX}) {
      is.argument("rule(" + bad + ")", () -> x.rule(bad));
      is.eq("the RULE at first", x.many(7), 0);
    }
    is.eq("that before", x.rule(1), 0);
    is.argument("rule(2)", () -> x.rule(2));
    is.argument("rule(-1)", () -> x.rule(-1));
    is.eq("not by a throw", x.many(7), 1);
    is.eq("that before", x.rule(1), 1);
    is.eq("that before", x.rule(0), 1);
    is.eq("that before", x.rule(0), 0);
  }

  private static void ruleOfTheEndOfAMonth() {
    PlayPool x = Houses.twoSongs();
    x.pass(14399);
    x.rule(1);
    x.pass(1);
    is.eq("told in the last minute", x.ofRecording(0, 3), 607);
    PlayPool y = Houses.twoSongs();
    y.pass(14400);
    y.rule(1);
    is.eq("told in the next MONTH", y.ofRecording(0, 3), 630);
    y.pass(14399);
    is.eq("as it was", y.ofRecording(0, 3), 630);
  }
}
