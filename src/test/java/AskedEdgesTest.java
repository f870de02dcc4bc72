import java.math.BigInteger;

/** The boundary cases of "Alike" and of promises 14 to 27. */
public final class AskedEdgesTest {
  private static final int MIN = Integer.MIN_VALUE;
  private static final int MAX = Integer.MAX_VALUE;
  private static final int LAST = 99999;
  private static final int MONTH = 14400;
  private static final Checks is = new Checks();

  public static void main(String[] args) {
    numbersThatAreAsked();
    monthsThatAreAsked();
    meansAndCharts();
    alikeAndNext();
    whatWouldBe();
    digests();
    is.end("the edges of promises 14 to 27");
  }

  private static void numbersThatAreAsked() {
    numbersOfTracks();
    numbersOfListeners();
    numbersOfPlays();
    numbersOfParties();
    numbersOfRecordings();
    numbersOfMany();
    numbersOfReasons();
  }

  private static void monthsThatAreAsked() {
    landsOfATrack();
    countedOfATrack();
    countedInTheMonthOfNow();
    closedAtTheEndOfAMonth();
  }

  private static void meansAndCharts() {
    meanWithoutAny();
    meanIsNotRounded();
    meanOfTheMost();
    numbersOfCharts();
    chartOfTenRecordings();
    chartPoints();
    chartOfAsManyPoints();
    chartOfTheMonthOfNow();
    chartByThePlanNow();
    chartOfOneLand();
    chartWithoutPlaysThatCount();
  }

  private static void alikeAndNext() {
    numbersOfAlike();
    alikeIsHowManyListeners();
    alikeOfAnyMonth();
    alikeByPlaysThatCount();
    numbersOfNext();
    nextOfTheLastRecording();
    nextByTheGreatestSum();
    nextHoweverOftenHeard();
    nextByEachThatIsHeard();
    nextByOneTrackThatIsBoth();
    nextByMostPlays();
    nextByTheSmallestNumber();
    nextWithoutAny();
    nextOfAnyMonth();
  }

  private static void whatWouldBe() {
    numbersOfWouldGet();
    numbersOfWouldPay();
    wouldGetAtTheEndsOfAMonth();
    wouldGetByPlaysThatCount();
    wouldBeAsItIs();
    wouldBeChangesNothing();
  }

  private static void digests() {
    digestOfAnEmptyHouse();
    digestWraps();
    digestIsTheLastCall();
  }

  // ---- promises 14 to 20: which numbers there are

  private static void numbersOfTracks() {
    PlayPool x = new PlayPool();
    for (int i = 0; i < 14; i++) {
      x.track(9 - i % 10);
    }
    for (int bad : new int[] {MIN, -1, 14, MAX}) {
      is.index("ofTrack(" + bad + ", 0)", () -> x.ofTrack(bad, 0));
    }
    for (int bad : new int[] {MIN, -1, 4, MAX}) {
      is.argument("ofTrack(0, " + bad + ")", () -> x.ofTrack(0, bad));
      is.argument("ofTrack(13, " + bad + ")", () -> x.ofTrack(13, bad));
    }
    int[][] due = {{9, -1, 0, 0}, {6, -1, 0, 0}};
    for (int what = 0; what <= 3; what++) {
      is.eq("ofTrack(0, " + what + ")", x.ofTrack(0, what), due[0][what]);
      is.eq("ofTrack(13, " + what + ")", x.ofTrack(13, what), due[1][what]);
    }
  }

  private static void numbersOfListeners() {
    PlayPool x = new PlayPool();
    for (int i = 0; i < 8; i++) {
      x.listener(3 - i % 4, 2);
    }
    for (int bad : new int[] {MIN, -1, 8, MAX}) {
      is.index("ofListener(" + bad + ", 0)", () -> x.ofListener(bad, 0));
    }
    for (int bad : new int[] {MIN, -1, 8, MAX}) {
      is.argument("ofListener(0, " + bad + ")", () -> x.ofListener(0, bad));
      is.argument("ofListener(7, " + bad + ")", () -> x.ofListener(7, bad));
    }
    int[][] due = {{3, 2, 0, 0, 0, 0, 0, 0}, {0, 2, 0, 0, 0, 0, 0, 0}};
    for (int what = 0; what <= 7; what++) {
      is.eq("ofListener(0, " + what + ")", x.ofListener(0, what), due[0][what]);
      is.eq("ofListener(7, " + what + ")", x.ofListener(7, what), due[1][what]);
    }
  }

  private static void numbersOfPlays() {
    PlayPool x = Houses.oneSong(0);
    x.play(0, 0, 0, 600);
    for (int bad : new int[] {MIN, -1, 2, 129, 130, MAX}) {
      is.index("ofPlay(" + bad + ", 0)", () -> x.ofPlay(bad, 0));
    }
    for (int bad : new int[] {MIN, -1, 6, MAX}) {
      is.argument("ofPlay(0, " + bad + ")", () -> x.ofPlay(0, bad));
      is.argument("ofPlay(1, " + bad + ")", () -> x.ofPlay(1, bad));
    }
    int[][] due = {{0, 0, 0, 60, 0, 0}, {0, 0, 0, 600, 0, 0}};
    for (int what = 0; what <= 5; what++) {
      is.eq("ofPlay(0, " + what + ")", x.ofPlay(0, what), due[0][what]);
      is.eq("ofPlay(1, " + what + ")", x.ofPlay(1, what), due[1][what]);
    }
  }

  private static void numbersOfParties() {
    PlayPool x = new PlayPool();
    x.advance(0, 7);
    x.advance(4, 9);
    for (int bad : new int[] {MIN, -1, 5, MAX}) {
      is.index("ofParty(" + bad + ", 0)", () -> x.ofParty(bad, 0));
    }
    for (int bad : new int[] {MIN, -1, 4, MAX}) {
      is.argument("ofParty(0, " + bad + ")", () -> x.ofParty(0, bad));
      is.argument("ofParty(4, " + bad + ")", () -> x.ofParty(4, bad));
    }
    for (int what = 0; what <= 3; what++) {
      is.eq("ofParty(0, " + what + ")", x.ofParty(0, what), what == 2 ? 7 : 0);
      is.eq("ofParty(4, " + what + ")", x.ofParty(4, what), what == 2 ? 9 : 0);
    }
  }

  private static void numbersOfRecordings() {
    PlayPool x = new PlayPool();
    x.claim(0, 0, 7);
    x.claim(9, 4, 9);
    for (int bad : new int[] {MIN, -1, 10, MAX}) {
      is.index("ofRecording(" + bad + ", 0)", () -> x.ofRecording(bad, 0));
    }
    for (int bad : new int[] {MIN, -1, 7, MAX}) {
      is.argument("ofRecording(0, " + bad + ")", () -> x.ofRecording(0, bad));
      is.argument("ofRecording(9, " + bad + ")", () -> x.ofRecording(9, bad));
    }
    for (int what = 0; what <= 6; what++) {
      is.eq("ofRecording(0, " + what + ")", x.ofRecording(0, what), what == 0 ? 7 : 0);
      is.eq("ofRecording(9, " + what + ")", x.ofRecording(9, what), what == 0 ? 9 : 0);
    }
  }

  private static void numbersOfMany() {
    PlayPool x = Houses.oneSong(1);
    for (int land = 0; land <= 3; land++) {
      x.listener(land, land % 3);
    }
    for (int bad : new int[] {MIN, -1, 18, MAX}) {
      is.argument("many(" + bad + ")", () -> x.many(bad));
    }
    x.pass(MONTH);
    int[] due = {MONTH, 1, 1, 1, 5, 1, 1, 0, 870, 840, 0, 0, 0, 0, 0, 700, 350, 140};
    for (int what = 0; what <= 17; what++) {
      is.eq("many(" + what + ")", x.many(what), due[what]);
    }
  }

  private static void numbersOfReasons() {
    PlayPool x = Houses.songs(1);
    x.listener(0, 0);
    Houses.plays(x, 0, 0, 0, 7);
    for (int bad : new int[] {MIN, -1, 6, MAX}) {
      is.index("reasons(" + bad + ")", () -> x.reasons(bad));
    }
    is.eq("the first REASON", x.reasons(0), 5);
    is.eq("the last REASON", x.reasons(5), 2);
    for (int reason = 1; reason <= 4; reason++) {
      is.eq("reasons(" + reason + ")", x.reasons(reason), 0);
    }
  }

  // ---- promises 14 to 18: of NOW, of the MONTH of NOW

  private static void landsOfATrack() {
    PlayPool x = new PlayPool();
    x.track(0);
    int[] due = {0, 1, 3, 7, 15};
    is.eq("without a WINDOW", x.ofTrack(0, 2), due[0]);
    for (int land = 0; land <= 3; land++) {
      x.window(0, land, 0, land);
      x.window(0, land, 0, land);
      is.eq("LANDS", x.ofTrack(0, 2), due[land + 1]);
    }
    for (int minute = 1; minute <= 4; minute++) {
      x.pass(1);
      is.eq("LANDS in minute " + minute, x.ofTrack(0, 2), 15 - due[minute]);
    }
  }

  private static void countedOfATrack() {
    PlayPool x = new PlayPool();
    x.track(0);
    x.track(0);
    x.listener(0, 0);
    x.window(0, 0, 0, LAST);
    x.window(1, 0, 0, LAST);
    Houses.plays(x, 0, 0, 0, 4);
    Houses.plays(x, 0, 1, 0, 2);
    is.eq("all COUNT", x.ofTrack(0, 3), 4);
    is.eq("the sixth of the RECORDING does not", x.ofTrack(1, 3), 1);
    x.pass(MONTH);
    x.play(0, 1, MONTH, 60);
    is.eq("of any MONTH", x.ofTrack(0, 3), 4);
    is.eq("of any MONTH", x.ofTrack(1, 3), 2);
  }

  private static void countedInTheMonthOfNow() {
    PlayPool x = Houses.keptSong(MONTH - 1);
    Houses.plays(x, 0, 0, 0, 1);
    Houses.plays(x, 0, 0, MONTH - 1, 2);
    is.eq("by the LISTENER, in the last minute", x.ofListener(0, 6), 3);
    is.eq("of the RECORDING, in the last minute", x.ofRecording(0, 6), 3);
    x.pass(1);
    is.eq("by the LISTENER, a minute later", x.ofListener(0, 6), 0);
    is.eq("of the RECORDING, a minute later", x.ofRecording(0, 6), 0);
    is.eq("by the LISTENER ever", x.ofListener(0, 5), 3);
    is.eq("of the RECORDING ever", x.ofRecording(0, 5), 3);
    Houses.plays(x, 0, 0, MONTH, 1);
    x.pass(MONTH - 1);
    is.eq("by the LISTENER, in the first minute", x.ofListener(0, 6), 1);
    is.eq("of the RECORDING, in the first minute", x.ofRecording(0, 6), 1);
    is.eq("by the LISTENER ever", x.ofListener(0, 5), 4);
    is.eq("of the RECORDING ever", x.ofRecording(0, 5), 4);
    is.eq("PLAYS of the LISTENER", x.ofListener(0, 4), 4);
  }

  private static void closedAtTheEndOfAMonth() {
    PlayPool x = Houses.keptSong(MONTH - 1);
    x.play(0, 0, 0, 60);
    x.play(0, 0, MONTH - 1, 60);
    is.eq("the first minute", x.ofPlay(0, 5), 0);
    is.eq("the last minute", x.ofPlay(1, 5), 0);
    x.pass(1);
    x.play(0, 0, MONTH, 60);
    is.eq("the first minute", x.ofPlay(0, 5), 1);
    is.eq("the last minute", x.ofPlay(1, 5), 1);
    is.eq("the first one of the next", x.ofPlay(2, 5), 0);
    x.pass(MONTH - 1);
    is.eq("in the last one of the next", x.ofPlay(2, 5), 0);
    x.pass(1);
    is.eq("a minute later", x.ofPlay(2, 5), 1);
  }

  // ---- promise 21

  private static void meanWithoutAny() {
    PlayPool x = Houses.songs(1);
    x.listener(0, 0);
    is.eqDouble("without PLAYS", x.meanSeconds(), 0.0);
    x.play(0, 0, 0, 29);
    is.eqDouble("one that does not COUNT", x.meanSeconds(), 0.0);
    x.play(0, 0, 0, 30);
    is.eqDouble("one that COUNTS", x.meanSeconds(), 30.0);
    x.flag(0, true);
    is.eqDouble("none COUNTS any more", x.meanSeconds(), 0.0);
  }

  private static void meanIsNotRounded() {
    PlayPool x = Houses.songs(2);
    x.listener(0, 0);
    x.play(0, 0, 0, 30);
    x.play(0, 0, 0, 31);
    is.eqDouble("of two", x.meanSeconds(), 30.5);
    x.play(0, 0, 0, 31);
    is.eqDouble("of three", x.meanSeconds(), 92.0 / 3.0);
    x.play(0, 1, 0, 600);
    x.play(0, 1, 0, 600);
    x.play(0, 1, 0, 599);
    x.play(0, 1, 0, 33);
    is.eqDouble("of seven", x.meanSeconds(), 1924.0 / 7.0);
    x.pass(MONTH);
    is.eqDouble("of a CLOSED MONTH", x.meanSeconds(), 1924.0 / 7.0);
  }

  private static void meanOfTheMost() {
    PlayPool x = Houses.songs(10);
    for (int play = 0; play < 130; play++) {
      if (play % 10 == 0 && play < 80) {
        x.listener(0, 0);
      }
      x.play(play % 80 / 10, play % 10, 0, play == 129 ? 599 : 600);
    }
    is.eq("all COUNT", x.reasons(0), 130);
    is.eqDouble("of 130", x.meanSeconds(), 77999.0 / 130.0);
  }

  // ---- promise 22

  private static void numbersOfCharts() {
    PlayPool x = Houses.oneSong(0);
    for (int bad : new int[] {MIN, -1, 4, MAX}) {
      is.index("chart(" + bad + ", 0)", () -> x.chart(bad, 0));
    }
    for (int bad : new int[] {MIN, -1}) {
      is.argument("chart(0, " + bad + ")", () -> x.chart(0, bad));
      is.argument("chart(3, " + bad + ")", () -> x.chart(3, bad));
    }
    is.eq("the first place", x.chart(0, 0), 0);
    for (int k : new int[] {1, 9, 10, 11, MAX}) {
      is.eq("nobody in place " + k, x.chart(0, k), -1);
    }
    is.eq("the last LAND", x.chart(3, 0), -1);
  }

  private static void chartOfTenRecordings() {
    PlayPool x = Houses.songs(10);
    x.listener(0, 1);
    for (int track = 0; track < 10; track++) {
      x.play(0, track, 0, 60);
    }
    for (int k = 0; k <= 9; k++) {
      is.eq("place " + k, x.chart(0, k), k);
    }
    is.eq("no eleventh place", x.chart(0, 10), -1);
    is.eq("no place so far down", x.chart(0, MAX), -1);
    x.play(0, 9, 0, 60);
    is.eq("the last comes first", x.chart(0, 0), 9);
    is.eq("the first comes second", x.chart(0, 1), 0);
    is.eq("the last but one comes last", x.chart(0, 9), 8);
  }

  private static void chartPoints() {
    for (int plan = 0; plan <= 2; plan++) {
      PlayPool x = Houses.songs(3);
      x.listener(0, 0);
      x.listener(0, plan);
      x.play(0, 0, 0, 60);
      x.play(1, 1, 0, 60);
      x.play(0, 2, 0, 60);
      x.play(0, 2, 0, 60);
      // 1, 1 or 2, and 2 POINTS.
      is.eq("PLAN " + plan, x.chart(0, 0), plan == 0 ? 2 : 1);
      is.eq("PLAN " + plan, x.chart(0, 1), plan == 0 ? 0 : 2);
      is.eq("PLAN " + plan, x.chart(0, 2), plan == 0 ? 1 : 0);
    }
  }

  // 3 POINTS of FREE, 2 of PAID and 1 of FREE, 4 of STUDENT.
  private static void chartOfAsManyPoints() {
    PlayPool x = Houses.songs(8);
    for (int plan = 0; plan <= 2; plan++) {
      x.listener(0, plan);
    }
    Houses.plays(x, 0, 7, 0, 3);
    Houses.plays(x, 1, 4, 0, 1);
    Houses.plays(x, 0, 4, 0, 1);
    Houses.plays(x, 2, 5, 0, 2);
    int[] due = {5, 4, 7, -1};
    for (int k = 0; k < due.length; k++) {
      is.eq("place " + k, x.chart(0, k), due[k]);
    }
    x.play(0, 7, 0, 60);
    is.eq("4 POINTS, but a greater number", x.chart(0, 0), 5);
    is.eq("4 POINTS, but a greater number", x.chart(0, 1), 7);
    x.play(0, 7, 0, 60);
    is.eq("5 POINTS", x.chart(0, 0), 7);
  }

  private static void chartOfTheMonthOfNow() {
    PlayPool x = Houses.keptSong(MONTH - 1);
    x.play(0, 0, 0, 60);
    is.eq("in the last minute", x.chart(0, 0), 0);
    x.pass(1);
    is.eq("a minute later", x.chart(0, 0), -1);
    x.play(0, 0, MONTH, 60);
    is.eq("in the first minute", x.chart(0, 0), 0);
    Houses.passTo(x, LAST);
    is.eq("in the last minute of all", x.chart(0, 0), -1);
    x.play(0, 0, 6 * MONTH, 60);
    is.eq("of the last MONTH", x.chart(0, 0), 0);
  }

  private static void chartByThePlanNow() {
    PlayPool x = Houses.songs(2);
    x.listener(0, 0);
    x.listener(0, 0);
    x.play(0, 0, 0, 60);
    x.play(1, 1, 0, 60);
    is.eq("both FREE", x.chart(0, 0), 0);
    x.plan(1, 2);
    is.eq("the second a STUDENT", x.chart(0, 0), 1);
    x.plan(0, 1);
    is.eq("neither FREE", x.chart(0, 0), 0);
    x.plan(0, 0);
    is.eq("the first FREE", x.chart(0, 0), 1);
    x.plan(1, 0);
    is.eq("both FREE", x.chart(0, 0), 0);
  }

  private static void chartOfOneLand() {
    PlayPool x = new PlayPool();
    for (int land = 0; land <= 3; land++) {
      x.track(9 - land);
      x.window(land, land, 0, 0);
      x.listener(land, 0);
      x.play(land, land, 0, 60);
    }
    for (int land = 0; land <= 3; land++) {
      is.eq("LAND " + land, x.chart(land, 0), 9 - land);
      is.eq("LAND " + land, x.chart(land, 1), -1);
    }
  }

  private static void chartWithoutPlaysThatCount() {
    PlayPool x = Houses.songs(1);
    x.listener(0, 0);
    x.play(0, 0, 0, 29);
    is.eq("too short", x.chart(0, 0), -1);
    x.play(0, 0, 0, 30);
    is.eq("it COUNTS", x.chart(0, 0), 0);
    x.flag(0, true);
    is.eq("FLAGGED", x.chart(0, 0), -1);
  }

  // ---- promise 23

  private static void numbersOfAlike() {
    PlayPool x = Houses.songs(10);
    x.listener(0, 0);
    x.play(0, 0, 0, 60);
    x.play(0, 9, 0, 60);
    for (int bad : new int[] {MIN, -1, 10, MAX}) {
      is.index("alike(" + bad + ", 0)", () -> x.alike(bad, 0));
      is.index("alike(0, " + bad + ")", () -> x.alike(0, bad));
      is.index("alike(" + bad + ", the same)", () -> x.alike(bad, bad));
    }
    for (int same = 0; same <= 9; same++) {
      int one = same;
      is.argument("alike(" + same + ", the same)", () -> x.alike(one, one));
    }
    is.eq("the first with the last", x.alike(0, 9), 1);
    is.eq("the last with the first", x.alike(9, 0), 1);
    is.eq("the first with another", x.alike(0, 8), 0);
  }

  private static void alikeIsHowManyListeners() {
    PlayPool x = Houses.songs(2);
    for (int listener = 0; listener < 8; listener++) {
      x.listener(0, 0);
      is.eq("so far", x.alike(0, 1), listener);
      Houses.plays(x, listener, 0, 0, 2);
      is.eq("of one of both alone", x.alike(0, 1), listener);
      Houses.plays(x, listener, 1, 0, 3);
      is.eq("of both", x.alike(1, 0), listener + 1);
    }
  }

  private static void alikeOfAnyMonth() {
    PlayPool x = Houses.songs(2);
    x.listener(0, 0);
    x.play(0, 0, 0, 60);
    x.pass(MONTH);
    x.play(0, 1, MONTH, 60);
    is.eq("in two MONTHS", x.alike(0, 1), 1);
    Houses.passTo(x, LAST);
    is.eq("in the last minute", x.alike(0, 1), 1);
  }

  private static void alikeByPlaysThatCount() {
    PlayPool x = Houses.songs(2);
    x.listener(0, 0);
    x.play(0, 0, 0, 60);
    x.play(0, 1, 0, 29);
    is.eq("one is too short", x.alike(0, 1), 0);
    x.play(0, 1, 0, 30);
    is.eq("both COUNT", x.alike(0, 1), 1);
    x.down(1, true);
    is.eq("one is DOWN", x.alike(0, 1), 0);
  }

  // ---- promise 24

  private static void numbersOfNext() {
    PlayPool x = Houses.songs(1);
    for (int i = 0; i < 8; i++) {
      x.listener(i / 4, 0);
    }
    for (int bad : new int[] {MIN, -1, 8, MAX}) {
      is.index("next(" + bad + ")", () -> x.next(bad));
    }
    is.eq("of the first LISTENER", x.next(0), 0);
    is.eq("of the last LISTENER, elsewhere", x.next(7), -1);
    x.window(0, 1, 0, 0);
    is.eq("of the last LISTENER", x.next(7), 0);
  }

  private static void nextOfTheLastRecording() {
    PlayPool x = Houses.songs(10);
    x.listener(0, 0);
    for (int track = 0; track < 10; track++) {
      is.eq("the first that is not heard", x.next(0), track);
      x.play(0, track, 0, 29);
      is.eq("one too short is not heard", x.next(0), track);
      x.play(0, track, 0, 30);
    }
    is.eq("all are heard", x.next(0), -1);
    x.flag(0, true);
    is.eq("none is heard", x.next(0), 0);
  }

  // LISTENER 0 heard 0 and 1, and has 2 to 4 to hear; those behind it hear as is told.
  private static int nextAfter(int[]... heard) {
    PlayPool x = Houses.songs(5);
    x.listener(0, 0);
    x.play(0, 0, 0, 60);
    x.play(0, 1, 0, 60);
    for (int[] tracks : heard) {
      int listener = x.listener(0, 0);
      for (int track : tracks) {
        x.play(listener, track, 0, 60);
      }
    }
    return x.next(0);
  }

  private static void nextByTheGreatestSum() {
    int[] twoTwice = {2, 2};
    is.eq("3 by 0 alone, 2 has more PLAYS", nextAfter(new int[] {0, 3}, twoTwice), 3);
    is.eq("3 by 1 alone, 2 has more PLAYS", nextAfter(new int[] {1, 3}, twoTwice), 3);
    is.eq("2 by 0 and 1, 3 by 0 alone with more PLAYS",
        nextAfter(new int[] {0, 2}, new int[] {1, 2}, new int[] {0, 3, 3, 3}), 2);
    is.eq("2 by 0 twice, 3 by 1 once with more PLAYS",
        nextAfter(new int[] {0, 2}, new int[] {0, 2}, new int[] {1, 3, 3, 3}), 2);
    is.eq("3 by 0 and 1 of one LISTENER, 2 by 0 with more PLAYS",
        nextAfter(new int[] {0, 1, 3}, new int[] {0, 2, 2, 2}), 3);
    is.eq("as much, and 3 has more PLAYS",
        nextAfter(new int[] {0, 2}, new int[] {1, 3, 3}), 3);
    is.eq("as much, and as many PLAYS", nextAfter(new int[] {0, 2}, new int[] {1, 3}), 2);
    is.eq("3 and 4 ALIKE to what is not heard, 2 by 0 once",
        nextAfter(new int[] {3, 4}, new int[] {3, 4}, new int[] {0, 2}), 2);
  }

  private static void nextHoweverOftenHeard() {
    PlayPool x = Houses.songs(4);
    for (int listener = 0; listener < 4; listener++) {
      x.listener(0, 0);
    }
    Houses.plays(x, 0, 0, 0, 5);
    x.play(0, 1, 0, 60);
    x.play(1, 0, 0, 60);
    x.play(1, 2, 0, 60);
    for (int listener = 2; listener <= 3; listener++) {
      x.play(listener, 1, 0, 60);
      x.play(listener, 3, 0, 60);
    }
    is.eq("3 by two, and 2 by one that is heard five times", x.next(0), 3);
  }

  // To one who heard one RECORDING alone, another is ALIKE by that, and a third has more PLAYS.
  private static void nextByEachThatIsHeard() {
    for (int heard = 0; heard <= 9; heard++) {
      for (int away = 1; away <= 8; away++) {
        int due = (heard + away) % 10;
        int third = (heard + away + 1) % 10;
        PlayPool x = Houses.songs(10);
        for (int listener = 0; listener < 3; listener++) {
          x.listener(0, 0);
        }
        x.play(0, heard, 0, 60);
        x.play(1, heard, 0, 60);
        x.play(1, due, 0, 60);
        Houses.plays(x, 2, third, 0, 3);
        is.eq("one who heard " + heard, x.next(0), due);
      }
    }
  }

  private static void nextByOneTrackThatIsBoth() {
    PlayPool x = new PlayPool();
    for (int track = 0; track < 3; track++) {
      x.track(track / 2);
    }
    x.listener(2, 0);
    x.window(0, 2, 0, LAST);
    x.window(1, 1, 0, LAST);
    x.window(2, 2, 0, LAST);
    is.eq("one TRACK of 0 is both", x.next(0), 0);
    x.down(0, true);
    is.eq("one is DOWN, the other ALLOWED elsewhere", x.next(0), 1);
    x.window(1, 2, 1, LAST);
    is.eq("the other is ALLOWED in a minute to come", x.next(0), 1);
    x.pass(1);
    is.eq("the other is both", x.next(0), 0);
  }

  private static void nextByMostPlays() {
    PlayPool x = Houses.songs(3);
    for (int i = 0; i < 3; i++) {
      x.listener(0, 0);
    }
    is.eq("as many PLAYS, none", x.next(0), 0);
    x.play(1, 2, 0, 60);
    is.eq("one PLAY", x.next(0), 2);
    x.play(1, 1, 0, 60);
    is.eq("one PLAY each", x.next(0), 1);
    x.play(2, 2, 0, 29);
    is.eq("one that does not COUNT", x.next(0), 1);
    x.play(2, 2, 0, 60);
    is.eq("two and one", x.next(0), 2);
    x.pass(MONTH);
    is.eq("two and one, of any MONTH", x.next(0), 2);
    x.play(1, 1, MONTH, 60);
    is.eq("two each", x.next(0), 1);
    x.play(2, 2, MONTH, 60);
    is.eq("three and two", x.next(0), 2);
  }

  private static void nextByTheSmallestNumber() {
    PlayPool x = new PlayPool();
    for (int track = 0; track < 5; track++) {
      x.track(9 - 2 * track);
      x.window(track, 0, 0, 0);
    }
    x.listener(0, 0);
    is.eq("not by the TRACK", x.next(0), 1);
    x.down(4, true);
    is.eq("the next one", x.next(0), 3);
  }

  private static void nextWithoutAny() {
    PlayPool x = new PlayPool();
    x.listener(0, 0);
    is.eq("no TRACKS", x.next(0), -1);
    x.track(0);
    is.eq("no WINDOWS", x.next(0), -1);
    x.window(0, 0, 1, 1);
    is.eq("a minute ahead", x.next(0), -1);
    x.pass(1);
    is.eq("in its minute", x.next(0), 0);
    x.down(0, true);
    is.eq("DOWN", x.next(0), -1);
    x.down(0, false);
    x.pass(1);
    is.eq("a minute later", x.next(0), -1);
  }

  private static void nextOfAnyMonth() {
    PlayPool x = Houses.songs(2);
    x.listener(0, 0);
    x.play(0, 0, 0, 60);
    Houses.passTo(x, LAST);
    is.eq("heard long ago", x.next(0), 1);
    x.play(0, 1, LAST, 60);
    is.eq("all are heard", x.next(0), -1);
  }

  // ---- promises 25 and 26

  private static void numbersOfWouldGet() {
    PlayPool x = Houses.songs(10);
    x.listener(0, 0);
    x.play(0, 0, 0, 60);
    x.play(0, 9, 0, 60);
    for (int bad : new int[] {MIN, -1, 10, MAX}) {
      is.index("wouldGet(" + bad + ", 0)", () -> x.wouldGet(bad, 0));
      is.index("wouldGet(" + bad + ", 1)", () -> x.wouldGet(bad, 1));
    }
    for (int bad : new int[] {MIN, -1, 2, MAX}) {
      is.argument("wouldGet(0, " + bad + ")", () -> x.wouldGet(0, bad));
    }
    for (int rule = 0; rule <= 1; rule++) {
      is.eq("the first", x.wouldGet(0, rule), 70);
      is.eq("the last", x.wouldGet(9, rule), 70);
      is.eq("another", x.wouldGet(8, rule), 0);
    }
  }

  private static void numbersOfWouldPay() {
    PlayPool x = Houses.songs(2);
    x.listener(0, 1);
    x.listener(0, 1);
    x.play(0, 0, 0, 60);
    x.play(0, 1, 0, 60);
    x.claim(0, 0, 100);
    x.claim(1, 4, 72);
    for (int bad : new int[] {MIN, -1, 5, MAX}) {
      is.index("wouldPay(" + bad + ", 0)", () -> x.wouldPay(bad, 0));
      is.index("wouldPay(" + bad + ", 1)", () -> x.wouldPay(bad, 1));
    }
    for (int bad : new int[] {MIN, -1, 2, MAX}) {
      is.argument("wouldPay(0, " + bad + ")", () -> x.wouldPay(0, bad));
    }
    is.eq("the first", x.wouldPay(0, 0), 700);
    is.eq("the last", x.wouldPay(4, 0), 504);
    is.eq("another", x.wouldPay(3, 0), 0);
    is.eq("350 by the RULE 1", x.wouldPay(0, 1), 0);
  }

  private static void wouldGetAtTheEndsOfAMonth() {
    PlayPool x = Houses.keptSong(MONTH - 1);
    x.play(0, 0, 0, 60);
    x.claim(0, 0, 100);
    for (int rule = 0; rule <= 1; rule++) {
      is.eq("in the last minute", x.wouldGet(0, rule), 700);
      is.eq("in the last minute", x.wouldPay(0, rule), 700);
    }
    x.pass(1);
    for (int rule = 0; rule <= 1; rule++) {
      is.eq("a minute later", x.wouldGet(0, rule), 0);
      is.eq("a minute later", x.wouldPay(0, rule), 0);
    }
    Houses.passTo(x, LAST);
    x.play(0, 0, LAST, 60);
    is.eq("in the last minute of all, with the CARRY", x.wouldGet(0, 0), 6 * 700);
    is.eq("in the last minute of all, with the CARRY", x.wouldPay(0, 1), 6 * 700);
  }

  // For each REASON from 0 to 5 there are PLAYS of the RECORDING with that number.
  private static PlayPool houseOfAllReasons(int plan) {
    PlayPool x = Houses.songs(6);
    x.track(2);
    x.listener(0, plan);
    x.listener(0, plan);
    x.down(3, true);
    x.flag(1, true);
    x.play(0, 0, 0, 30);
    Houses.plays(x, 0, 5, 0, 7);
    x.play(0, 1, 0, 29);
    x.play(0, 6, 0, 60);
    x.play(0, 3, 0, 60);
    x.play(1, 4, 0, 60);
    return x;
  }

  // 2 times 700 by 1 and 5, or those of the one that is not FLAGGED alone.
  private static void wouldGetByPlaysThatCount() {
    int[][] due = {{233, 0, 0, 0, 0, 1167}, {117, 0, 0, 0, 0, 583}};
    for (int rule = 0; rule <= 1; rule++) {
      PlayPool x = houseOfAllReasons(1);
      for (int reason = 0; reason <= 5; reason++) {
        is.eq("REASONS", x.reasons(reason), reason == 0 ? 6 : reason == 5 ? 2 : 1);
      }
      for (int recording = 0; recording <= 5; recording++) {
        x.claim(recording, recording % 5, 100);
        is.eq("would get", x.wouldGet(recording, rule), due[rule][recording]);
      }
      is.eq("would be PAID", x.wouldPay(0, rule), due[rule][0] + due[rule][5]);
      x.rule(rule);
      x.pass(MONTH);
      for (int recording = 0; recording <= 5; recording++) {
        is.eq("got", x.ofRecording(recording, 3), due[rule][recording]);
      }
    }
  }

  private static void wouldBeAsItIs() {
    for (int rule = 0; rule <= 1; rule++) {
      PlayPool x = Houses.twoSongs();
      x.claim(0, 0, 100);
      x.claim(1, 1, 99);
      x.advance(0, 50);
      x.rule(1 - rule);
      int first = x.wouldGet(0, rule);
      int second = x.wouldGet(1, rule);
      int paid = x.wouldPay(0, rule) + x.wouldPay(1, rule);
      x.rule(rule);
      is.eq("PAID", x.pass(MONTH), paid);
      is.eq("got", x.ofRecording(0, 3), first);
      is.eq("got", x.ofRecording(1, 3), second);
    }
  }

  private static PlayPool houseWithAll() {
    PlayPool x = Houses.twoSongs();
    x.claim(0, 0, 100);
    x.claim(1, 1, 100);
    x.claim(1, 2, 1);
    x.advance(0, 50);
    return x;
  }

  private static PlayPool houseThatWasAsked() {
    PlayPool x = houseWithAll();
    for (int rule = 0; rule <= 1; rule++) {
      x.wouldGet(0, rule);
      x.wouldPay(0, rule);
    }
    x.digest();
    x.next(0);
    return x;
  }

  private static void wouldBeChangesNothing() {
    is.eqLines("what would be was asked", Questions.all(AskedEdgesTest::houseThatWasAsked),
        Questions.all(AskedEdgesTest::houseWithAll));
    PlayPool x = houseThatWasAsked();
    PlayPool y = houseWithAll();
    is.eq("PAID after that", x.pass(MONTH), y.pass(MONTH));
    is.eq("all after that", x.digest(), y.digest());
  }

  // ---- promise 27

  private static void digestOfAnEmptyHouse() {
    BigInteger d = BigInteger.valueOf(9106);
    // 18 and 6 numbers, 5 times 6 and 10 times 9 are 0; 4 times 2 are NONE; then one 0.
    for (int i = 0; i < 18 + 6 + 30 + 90; i++) {
      d = d.multiply(BigInteger.valueOf(31));
    }
    for (int i = 0; i < 8; i++) {
      d = d.multiply(BigInteger.valueOf(31)).subtract(BigInteger.ONE);
    }
    d = d.multiply(BigInteger.valueOf(31));
    is.eq("an empty house", new PlayPool().digest(), d.longValue());
  }

  // 0 and 1 are ALIKE by two, 0 and 2 by one, 1 and 2 by three; each is heard by four.
  private static PlayPool houseOfTwoMonths() {
    PlayPool x = Houses.songs(3);
    for (int listener = 0; listener < 7; listener++) {
      x.listener(0, listener % 3);
    }
    int[][] heard = {{0, 1, 2}, {0, 1}, {0}, {0}, {1, 2}, {1, 2}, {2}};
    x.claim(0, 3, 80);
    x.pass(MONTH + 7);
    for (int listener = 0; listener < heard.length; listener++) {
      for (int track : heard[listener]) {
        x.play(listener, track, MONTH + 7, 60);
      }
    }
    return x;
  }

  private static void digestWraps() {
    is.eq("64 bits of all numbers", houseOfTwoMonths().digest(),
        Questions.digestOf(AskedEdgesTest::houseOfTwoMonths));
  }

  private static void digestIsTheLastCall() {
    PlayPool x = Houses.songs(1);
    PlayPool y = Houses.songs(1);
    x.listener(0, 0);
    y.listener(0, 0);
    // 3 calls so far, and the 512th is the digest.
    for (int i = 0; i < 508; i++) {
      x.advance(i % 5, 99999);
    }
    for (int party = 4; party >= 0; party--) {
      for (int i = party; i < 508; i += 5) {
        y.advance(party, 99999);
      }
    }
    is.eq("the 512th call", x.digest(), y.digest());
  }
}
