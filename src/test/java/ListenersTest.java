/** Promises 8 to 13: listeners and plays. */
public final class ListenersTest {
  private static final Checks is = new Checks();

  public static void main(String[] args) {
    promise8();
    promise9();
    promise10();
    promise11();
    promise11Refused();
    promise12();
    promise12Offline();
    promise12FiveADay();
    promise12FiveOffline();
    promise12FirstIsLatest();
    promise12ReasonOrder();
    promise12Limits();
    promise13();
    promise13Twice();
    promise13Splits();
    promise13Carry();
    promise13Shares();
    is.end("promises 8 to 13");
  }

  private static void promise8() {
    PlayPool x = new PlayPool();
    is.index("listener", () -> x.listener(-1, 0));
    is.index("listener", () -> x.listener(4, 0));
    is.argument("listener", () -> x.listener(0, -1));
    is.argument("listener", () -> x.listener(0, 3));
    is.index("LAND ahead of PLAN", () -> x.listener(4, 3));
    for (int i = 0; i < 8; i++) {
      is.eq("listener", x.listener(i % 4, i % 3), i);
    }
    is.eq("its LAND", x.ofListener(7, 0), 3);
    is.eq("its PLAN", x.ofListener(7, 1), 1);
    is.eq("not FLAGGED at first", x.ofListener(7, 2), 0);
    is.state("a 9th", () -> x.listener(0, 0));
    is.argument("a 9th of no PLAN", () -> x.listener(0, 3));
    is.index("a 9th of no LAND", () -> x.listener(-1, 0));
    is.eq("8 of them", x.many(4), 8);
    PlayPool y = new PlayPool();
    y.listener(0, 0);
    y.pass(14400);
    y.listener(0, 0);
    is.eq("a later one has paid nothing", y.ofListener(1, 7), 0);
  }

  private static void promise9() {
    PlayPool x = Houses.songs(1);
    x.listener(0, 0);
    x.listener(0, 0);
    is.index("plan", () -> x.plan(2, 0));
    is.index("plan", () -> x.plan(-1, 0));
    is.argument("plan", () -> x.plan(0, -1));
    is.argument("plan", () -> x.plan(0, 3));
    is.index("LISTENER ahead of PLAN", () -> x.plan(2, 3));
    is.eq("plan", x.plan(0, 1), 0);
    is.eq("plan", x.plan(0, 2), 1);
    is.eq("its PLAN", x.ofListener(0, 1), 2);
    x.plan(1, 1);
    x.pass(14400);
    is.eq("its FEE is by the PLAN at the end", x.ofListener(0, 7), 500);
    is.eq("its FEE is by the PLAN at the end", x.ofListener(1, 7), 1000);
    x.plan(0, 0);
    x.pass(14400);
    is.eq("and another one", x.ofListener(0, 7), 700);
    is.eq("the HOUSE", x.many(8), 150 + 300 + 60 + 300);
    is.eq("the CARRY", x.many(14), 350 + 700 + 140 + 700);
  }

  private static void promise10() {
    PlayPool x = Houses.oneSong(0);
    x.listener(0, 0);
    x.play(1, 0, 0, 60);
    is.index("flag", () -> x.flag(2, true));
    is.index("flag", () -> x.flag(-1, false));
    is.eq("flag", x.flag(0, false) ? 1 : 0, 0);
    is.eq("flag", x.flag(0, true) ? 1 : 0, 0);
    is.eq("flag", x.flag(0, true) ? 1 : 0, 1);
    is.eq("FLAGGED", x.ofListener(0, 2), 1);
    is.eq("its PLAY does not count", x.ofPlay(0, 4), 4);
    is.eq("that of another does", x.ofPlay(1, 4), 0);
    is.eq("a new one does not", x.play(0, 0, 0, 60), 4);
    is.eq("clear", x.flag(0, false) ? 1 : 0, 1);
    is.eq("its PLAY counts", x.ofPlay(0, 4), 0);
    is.eq("its PLAY counts", x.ofPlay(2, 4), 0);
    x.flag(0, true);
    x.pass(14400);
    x.flag(0, false);
    x.flag(1, true);
    is.eq("FLAGGED as its MONTH was CLOSED", x.ofPlay(0, 4), 4);
    is.eq("not FLAGGED as its MONTH was CLOSED", x.ofPlay(1, 4), 0);
    is.eq("FLAGGED ones pay too", x.ofListener(0, 7), 200);
  }

  private static void promise11() {
    PlayPool x = Houses.songs(5);
    x.listener(0, 0);
    x.listener(0, 0);
    is.eq("keep", x.keep(0, 2), -1);
    is.eq("keep", x.keep(0, 1), -1);
    is.eq("keep", x.keep(0, 0), -1);
    is.eq("three of them", x.ofListener(0, 3), 3);
    is.eq("none on another PHONE", x.ofListener(1, 3), 0);
    is.state("KEPT", () -> x.keep(0, 1));
    is.eq("that for longest is gone", x.keep(0, 3), 2);
    is.eq("still three", x.ofListener(0, 3), 3);
    is.eq("then the next one", x.keep(0, 4), 1);
    is.eq("KEPT again", x.keep(0, 2), 0);
    is.eq("KEPT again", x.keep(0, 0), 3);
    x.pass(5);
    x.play(0, 4, 3, 60);
    x.play(0, 2, 3, 60);
    x.play(0, 0, 3, 60);
    is.state("gone", () -> x.play(0, 3, 3, 60));
    is.state("gone", () -> x.play(0, 1, 3, 60));
    is.state("not on this PHONE", () -> x.play(1, 4, 3, 60));
  }

  private static void promise11Refused() {
    PlayPool x = new PlayPool();
    x.track(0);
    x.track(0);
    x.listener(2, 0);
    x.window(0, 2, 10, 20);
    x.window(0, 1, 0, 99999);
    is.index("keep", () -> x.keep(-1, 0));
    is.index("keep", () -> x.keep(1, 0));
    is.index("keep", () -> x.keep(0, -1));
    is.index("keep", () -> x.keep(0, 2));
    is.state("not ALLOWED yet", () -> x.keep(0, 0));
    x.pass(10);
    is.state("not ALLOWED at all", () -> x.keep(0, 1));
    x.down(0, true);
    is.state("DOWN", () -> x.keep(0, 0));
    x.down(0, false);
    is.eq("none by a throw", x.ofListener(0, 3), 0);
    is.eq("keep", x.keep(0, 0), -1);
    x.pass(11);
    x.down(0, true);
    is.eq("stays on the PHONE", x.ofListener(0, 3), 1);
    is.eq("stays on the PHONE", x.play(0, 0, 20, 60), 0);
    is.eq("stays on the PHONE", x.play(0, 0, 9, 60), 2);
  }

  private static void promise12() {
    PlayPool x = Houses.songs(2);
    x.listener(0, 0);
    x.pass(100);
    is.index("play", () -> x.play(1, 0, 100, 60));
    is.index("play", () -> x.play(-1, 0, 100, 60));
    is.index("play", () -> x.play(0, 2, 100, 60));
    is.index("play", () -> x.play(0, -1, 100, 60));
    is.argument("play", () -> x.play(0, 0, 101, 60));
    is.argument("play", () -> x.play(0, 0, -1, 60));
    is.argument("play", () -> x.play(0, 0, 100, -1));
    is.argument("play", () -> x.play(0, 0, 100, 601));
    is.index("LISTENER ahead of minute", () -> x.play(1, 0, 101, 60));
    is.index("TRACK ahead of SECONDS", () -> x.play(0, 2, 100, 601));
    is.state("not KEPT", () -> x.play(0, 0, 99, 60));
    is.argument("SECONDS ahead of not KEPT", () -> x.play(0, 0, 99, 601));
    is.eq("none by a throw", x.many(5), 0);
    is.eq("0 SECONDS", x.play(0, 0, 100, 0), 1);
    is.eq("29 SECONDS", x.play(0, 0, 100, 29), 1);
    is.eq("30 SECONDS", x.play(0, 0, 100, 30), 0);
    is.eq("600 SECONDS", x.play(0, 1, 100, 600), 0);
    is.eq("four of them", x.many(5), 4);
  }

  private static void promise12Offline() {
    PlayPool x = Houses.songs(2);
    x.listener(0, 0);
    x.keep(0, 1);
    x.pass(14399);
    is.eq("offline", x.play(0, 1, 0, 60), 0);
    is.state("not KEPT", () -> x.play(0, 0, 0, 60));
    is.eq("online", x.play(0, 0, 14399, 60), 0);
    x.pass(1);
    is.state("its MONTH is CLOSED", () -> x.play(0, 1, 14399, 60));
    is.argument("SECONDS ahead of CLOSED", () -> x.play(0, 1, 14399, 601));
    is.eq("NOW", x.play(0, 1, 14400, 60), 0);
    x.pass(1);
    is.eq("offline, this MONTH", x.play(0, 1, 14400, 60), 0);
  }

  private static void promise12FiveADay() {
    PlayPool x = new PlayPool();
    x.track(3);
    x.track(3);
    x.track(4);
    for (int track = 0; track < 3; track++) {
      x.window(track, 0, 0, 99999);
    }
    x.listener(0, 0);
    x.listener(0, 0);
    x.play(0, 0, 0, 29);
    for (int i = 0; i < 5; i++) {
      is.eq("of five", x.play(0, i % 2, 0, 60), 0);
    }
    is.eq("a sixth of one TRACK", x.play(0, 0, 0, 60), 5);
    is.eq("a sixth of the other TRACK", x.play(0, 1, 0, 60), 5);
    is.eq("another RECORDING", x.play(0, 2, 0, 60), 0);
    is.eq("another LISTENER", x.play(1, 0, 0, 60), 0);
    is.eq("a sixth, but too short", x.play(0, 0, 0, 20), 1);
    x.pass(1439);
    is.eq("the same DAY", x.play(0, 0, 1439, 60), 5);
    x.pass(1);
    for (int i = 0; i < 5; i++) {
      is.eq("the next DAY", x.play(0, 0, 1440, 60), 0);
    }
    is.eq("the next DAY, a sixth", x.play(0, 0, 1440, 60), 5);
  }

  private static void promise12FiveOffline() {
    PlayPool x = Houses.songs(1);
    x.listener(0, 0);
    x.keep(0, 0);
    x.pass(50);
    for (int i = 0; i < 5; i++) {
      x.play(0, 0, 40, 60);
    }
    is.eq("earlier by minute", x.play(0, 0, 30, 60), 0);
    is.eq("of one minute the last by number is out", x.ofPlay(4, 4), 5);
    is.eq("the others count", x.ofPlay(3, 4), 0);
    is.eq("later by number", x.play(0, 0, 40, 60), 5);
    is.eq("earlier by minute", x.play(0, 0, 0, 60), 0);
    is.eq("one more is out", x.ofPlay(3, 4), 5);
    is.eq("five count", x.many(6), 5);
    x.down(0, true);
    is.eq("NOW alone is DOWN", x.many(6), 5);
    x.flag(0, true);
    is.eq("none counts", x.reasons(4), 8);
    x.flag(0, false);
    is.eq("five count again", x.many(6), 5);
  }

  private static void promise12FirstIsLatest() {
    PlayPool x = Houses.songs(1);
    x.listener(0, 0);
    x.keep(0, 0);
    x.pass(50);
    x.play(0, 0, 50, 60);
    for (int i = 0; i < 5; i++) {
      is.eq("earlier than the first one", x.play(0, 0, 40, 60), 0);
    }
    is.eq("five are earlier by now", x.ofPlay(0, 4), 5);
  }

  private static void promise12ReasonOrder() {
    PlayPool x = new PlayPool();
    x.track(0);
    x.listener(0, 0);
    x.down(0, true);
    x.flag(0, true);
    is.eq("too short first", x.play(0, 0, 0, 29), 1);
    is.eq("then not ALLOWED", x.play(0, 0, 0, 30), 2);
    x.window(0, 0, 0, 99999);
    is.eq("then DOWN", x.ofPlay(1, 4), 3);
    x.down(0, false);
    is.eq("then FLAGGED", x.ofPlay(1, 4), 4);
    x.flag(0, false);
    is.eq("then it counts", x.ofPlay(1, 4), 0);
    for (int i = 0; i < 5; i++) {
      x.play(0, 0, 0, 60);
    }
    is.eq("then too often", x.ofPlay(6, 4), 5);
    x.flag(0, true);
    is.eq("FLAGGED ahead of too often", x.ofPlay(6, 4), 4);
  }

  private static void promise12Limits() {
    PlayPool x = Houses.songs(1);
    x.listener(0, 0);
    for (int i = 0; i < 130; i++) {
      x.play(0, 0, 0, 60);
    }
    is.state("a 131st", () -> x.play(0, 0, 0, 60));
    is.argument("a 131st with too many SECONDS", () -> x.play(0, 0, 0, 601));
    is.index("a 131st of no TRACK", () -> x.play(0, 1, 0, 60));
    is.eq("130 of them", x.many(5), 130);
    is.eq("five count", x.many(6), 5);
    is.eq("too often", x.reasons(5), 125);
    is.eq("all are its own", x.ofListener(0, 4), 130);
    is.eq("those of it that COUNT", x.ofTrack(0, 3), 5);
    is.eqDouble("the mean of a full log", x.meanSeconds(), 60.0);
    x.pass(14400);
    is.state("CLOSED ones are among them", () -> x.play(0, 0, 14400, 60));
  }

  private static void promise13() {
    PlayPool x = new PlayPool();
    is.argument("pass", () -> x.pass(0));
    is.argument("pass", () -> x.pass(-1));
    is.argument("pass", () -> x.pass(20001));
    is.eq("pass", x.pass(1), 0);
    is.eq("NOW", x.many(0), 1);
    for (int i = 0; i < 4; i++) {
      x.pass(20000);
    }
    x.pass(19998);
    is.eq("NOW", x.many(0), 99999);
    is.eq("MONTHS that are CLOSED", x.many(1), 6);
    is.state("too late", () -> x.pass(1));
    is.argument("too many ahead of too late", () -> x.pass(20001));
    is.eq("NOW", x.many(0), 99999);
    PlayPool y = Houses.oneSong(1);
    y.claim(0, 0, 100);
    is.eq("not the end of the MONTH", y.pass(14399), 0);
    is.eq("not CLOSED", y.many(1), 0);
    is.eq("the end of the MONTH", y.pass(1), 700);
    is.eq("CLOSED", y.many(1), 1);
    is.eq("no second end", y.pass(14399), 0);
  }

  private static void promise13Twice() {
    PlayPool x = Houses.songs(1);
    x.listener(0, 1);
    x.claim(0, 0, 100);
    x.pass(14000);
    x.play(0, 0, 14000, 60);
    is.eq("two MONTHS end", x.pass(20000), 700);
    is.eq("two MONTHS are CLOSED", x.many(1), 2);
    is.eq("two FEES", x.ofListener(0, 7), 2000);
    is.eq("the HOUSE", x.many(8), 600);
    is.eq("the second one has no PLAYS", x.many(14), 700);
    is.eq("got", x.ofRecording(0, 3), 700);
    PlayPool y = Houses.songs(2);
    y.listener(0, 1);
    y.claim(0, 0, 60);
    y.claim(1, 0, 60);
    y.claim(1, 1, 60);
    y.pass(14000);
    y.play(0, 0, 14000, 60);
    y.play(0, 1, 14000, 60);
    is.eq("nothing is PAID by either end", y.pass(20000), 0);
    is.eq("HELD once", y.many(10), 350);
    is.eq("DUE once", y.ofParty(0, 0), 210);
  }

  private static void promise13Splits() {
    PlayPool x = Houses.songs(10);
    x.listener(0, 0);
    x.play(0, 9, 0, 60);
    x.play(0, 5, 0, 60);
    x.play(0, 2, 0, 60);
    x.pass(14400);
    is.eq("of as great rests the smallest number", x.ofRecording(2, 3), 47);
    is.eq("of as great rests the next one", x.ofRecording(5, 3), 47);
    is.eq("the last one gets no more", x.ofRecording(9, 3), 46);
    is.eq("all is SPLIT", x.many(14), 0);
    // 140 by 3, 4, 4 (of 11): 38, 50, 50, and the rests are 2, 10, 10.
    for (int i = 0; i < 4; i++) {
      x.play(0, 7, 14400, 60);
      x.play(0, 8, 14400, 60);
      if (i < 3) {
        x.play(0, 6, 14400, 60);
      }
    }
    x.pass(14400);
    is.eq("the least rest", x.ofRecording(6, 3), 38);
    is.eq("a great rest", x.ofRecording(7, 3), 51);
    is.eq("a great rest", x.ofRecording(8, 3), 51);
  }

  private static void promise13Carry() {
    for (int rule = 0; rule <= 1; rule++) {
      PlayPool x = Houses.songs(2);
      x.window(1, 3, 0, 99999);
      x.listener(0, 0);
      x.listener(0, 1);
      x.listener(3, 2);
      x.rule(rule);
      x.play(2, 1, 0, 60);
      x.pass(14400);
      is.eq("a LAND without PLAYS", x.many(14), 840);
      is.eq("one without LISTENERS", x.many(15), 0);
      is.eq("one with PLAYS", x.many(17), 0);
      is.eq("its POOL", x.ofRecording(1, 3), 350);
      x.play(0, 0, 14400, 60);
      x.play(0, 0, 14400, 60);
      x.play(0, 1, 14400, 60);
      is.eq("what the one would get", x.wouldGet(0, rule), rule == 0 ? 1120 : 560 + 93);
      x.pass(14400);
      // By the RULE 1 LISTENER 1 heard nothing, and its 700 stay; 140 is SPLIT as 93 and 47.
      is.eq("CARRY and all", x.ofRecording(0, 3), rule == 0 ? 1120 : 653);
      is.eq("CARRY and all", x.ofRecording(1, 3), 350 + (rule == 0 ? 560 : 280 + 47));
      is.eq("what stays", x.many(14), rule == 0 ? 0 : 700);
      is.eq("what stays", x.many(17), 350);
    }
  }

  private static void promise13Shares() {
    PlayPool x = Houses.oneSong(0);
    x.claim(0, 0, 33);
    x.claim(0, 1, 33);
    x.claim(0, 4, 1);
    x.pass(14400);
    is.eq("rounded down", x.ofParty(0, 0), 46);
    is.eq("rounded down", x.ofParty(1, 0), 46);
    is.eq("rounded down", x.ofParty(4, 0), 1);
    is.eq("the rest", x.many(9), 47);
    PlayPool y = Houses.oneSong(1);
    is.eq("nobody CLAIMS", y.pass(14400), 0);
    is.eq("all is in the BOX", y.many(9), 700);
  }
}
