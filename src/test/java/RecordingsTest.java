/** Promises 1 to 7: a new object, recordings and rights. */
public final class RecordingsTest {
  private static final Checks is = new Checks();

  public static void main(String[] args) {
    promise1();
    promise2();
    promise3();
    promise3Limits();
    promise3Plays();
    promise4();
    promise4Plays();
    promise5();
    promise5Conflict();
    promise6();
    promise6Recoups();
    promise7();
    is.end("promises 1 to 7");
  }

  private static void promise1() {
    PlayPool x = new PlayPool();
    for (int what = 0; what <= 17; what++) {
      is.eq("new: many(" + what + ")", x.many(what), 0);
    }
    for (int reason = 0; reason <= 5; reason++) {
      is.eq("new: reasons(" + reason + ")", x.reasons(reason), 0);
    }
    for (int party = 0; party <= 4; party++) {
      for (int what = 0; what <= 3; what++) {
        is.eq("new: ofParty(" + party + ", " + what + ")", x.ofParty(party, what), 0);
      }
    }
    for (int recording = 0; recording <= 9; recording++) {
      for (int what = 0; what <= 6; what++) {
        is.eq("new: ofRecording", x.ofRecording(recording, what), 0);
      }
    }
    is.index("new: ofTrack", () -> x.ofTrack(0, 0));
    is.index("new: ofListener", () -> x.ofListener(0, 0));
    is.index("new: ofPlay", () -> x.ofPlay(0, 0));
    is.eq("new: chart", x.chart(0, 0), -1);
    PlayPool other = new PlayPool();
    x.track(3);
    x.claim(3, 1, 10);
    is.eq("another object has no TRACK of the first", other.many(2), 0);
    is.eq("another object has no CLAIM of the first", other.ofRecording(3, 0), 0);
  }

  private static void promise2() {
    PlayPool x = new PlayPool();
    is.index("track(-1)", () -> x.track(-1));
    is.index("track(10)", () -> x.track(10));
    is.eq("no TRACK by a throw", x.many(2), 0);
    for (int i = 0; i < 14; i++) {
      is.eq("track", x.track(i < 4 ? 9 : i % 3), i);
    }
    is.eq("its RECORDING", x.ofTrack(0, 0), 9);
    is.eq("its RECORDING", x.ofTrack(13, 0), 1);
    is.eq("not DOWN at first", x.ofTrack(13, 1), -1);
    is.state("a 15th", () -> x.track(0));
    is.index("a 15th of no RECORDING", () -> x.track(10));
    is.eq("14 of them", x.many(2), 14);
  }

  private static void promise3() {
    PlayPool x = new PlayPool();
    x.track(0);
    is.eq("window", x.window(0, 0, 0, 0), 1);
    is.eq("window", x.window(0, 3, 99999, 99999), 2);
    is.eq("the same once more", x.window(0, 0, 0, 0), 3);
    is.index("no such TRACK", () -> x.window(-1, 0, 0, 0));
    is.index("no such TRACK", () -> x.window(1, 0, 0, 0));
    is.index("no such LAND", () -> x.window(0, -1, 0, 0));
    is.index("no such LAND", () -> x.window(0, 4, 0, 0));
    is.argument("from", () -> x.window(0, 0, -1, 5));
    is.argument("from", () -> x.window(0, 0, 100000, 100000));
    is.argument("to below from", () -> x.window(0, 0, 7, 6));
    is.argument("to", () -> x.window(0, 0, 7, 100000));
    is.index("TRACK ahead of from", () -> x.window(1, 0, -1, 5));
    is.index("LAND ahead of to", () -> x.window(0, 4, 7, 6));
    is.eq("no WINDOW by a throw", x.many(3), 3);
  }

  private static void promise3Limits() {
    PlayPool x = new PlayPool();
    x.track(0);
    for (int i = 1; i <= 30; i++) {
      is.eq("window", x.window(0, 1, i, 99999), i);
    }
    is.state("a 31st", () -> x.window(0, 0, 0, 0));
    is.argument("a 31st from -1", () -> x.window(0, 0, -1, 0));
    is.index("a 31st of no TRACK", () -> x.window(1, 0, 0, 0));
    is.eq("30 of them", x.many(3), 30);
    is.eq("not ALLOWED by the 31st", x.ofTrack(0, 2), 0);
  }

  private static void promise3Plays() {
    PlayPool x = new PlayPool();
    x.track(0);
    x.track(0);
    x.listener(1, 0);
    x.window(0, 1, 2, 4);
    x.window(0, 2, 0, 99999);
    x.window(1, 2, 0, 99999);
    int[] due = {2, 2, 0, 0, 0, 2};
    for (int minute = 0; minute <= 5; minute++) {
      is.eq("minute " + minute, x.play(0, 0, minute, 60), due[minute]);
      is.eq("in another LAND alone", x.play(0, 1, minute, 60), 2);
      x.pass(1);
    }
    x.window(0, 1, 5, 5);
    is.eq("a later WINDOW lets an earlier PLAY count", x.ofPlay(10, 4), 0);
    is.eq("as told, before its minute", x.ofPlay(2, 4), 2);
    x.pass(14400);
    x.window(0, 1, 0, 99999);
    is.eq("not once its MONTH is CLOSED", x.ofPlay(2, 4), 2);
  }

  private static void promise4() {
    PlayPool x = new PlayPool();
    x.track(0);
    x.track(0);
    is.index("down", () -> x.down(2, true));
    is.index("down", () -> x.down(-1, true));
    is.index("down", () -> x.down(2, false));
    is.state("not DOWN yet", () -> x.down(0, false));
    x.pass(77);
    is.eq("down", x.down(0, true), -1);
    is.eq("since then", x.ofTrack(0, 1), 77);
    is.eq("the other one is not", x.ofTrack(1, 1), -1);
    x.pass(3);
    is.state("DOWN already", () -> x.down(0, true));
    is.eq("since the same minute", x.ofTrack(0, 1), 77);
    is.eq("put back", x.down(0, false), 77);
    is.eq("put back", x.ofTrack(0, 1), -1);
    is.state("put back already", () -> x.down(0, false));
    is.eq("DOWN again", x.down(0, true), -1);
    is.eq("since NOW", x.ofTrack(0, 1), 80);
  }

  private static void promise4Plays() {
    PlayPool x = new PlayPool();
    x.track(0);
    x.window(0, 0, 0, 99999);
    x.listener(0, 0);
    x.keep(0, 0);
    x.pass(10);
    is.eq("before it is DOWN", x.play(0, 0, 10, 60), 0);
    x.pass(1);
    x.down(0, true);
    is.eq("in that minute", x.play(0, 0, 11, 60), 3);
    x.pass(1);
    is.eq("later", x.play(0, 0, 12, 60), 3);
    is.eq("offline, earlier", x.play(0, 0, 10, 60), 0);
    is.eq("the first one still counts", x.ofPlay(0, 4), 0);
    x.down(0, false);
    is.eq("counts, once put back", x.ofPlay(1, 4), 0);
    x.down(0, true);
    is.eq("DOWN from another minute", x.ofPlay(1, 4), 0);
    is.eq("DOWN from that minute", x.ofPlay(2, 4), 3);
    x.pass(14400);
    x.down(0, false);
    is.eq("its MONTH is CLOSED", x.ofPlay(2, 4), 3);
  }

  private static void promise5() {
    PlayPool x = new PlayPool();
    is.index("claim", () -> x.claim(-1, 0, 5));
    is.index("claim", () -> x.claim(10, 0, 5));
    is.index("claim", () -> x.claim(0, -1, 5));
    is.index("claim", () -> x.claim(0, 5, 5));
    is.argument("claim", () -> x.claim(0, 0, -1));
    is.argument("claim", () -> x.claim(0, 0, 101));
    is.index("RECORDING ahead of hundredths", () -> x.claim(10, 0, 101));
    is.index("PARTY ahead of hundredths", () -> x.claim(0, 5, 101));
    is.eq("claim", x.claim(9, 4, 60), 60);
    is.eq("claim", x.claim(9, 0, 40), 100);
    is.eq("not in CONFLICT by 100", x.ofRecording(9, 1), 0);
    is.eq("claim", x.claim(9, 0, 41), 101);
    is.eq("in CONFLICT by 101", x.ofRecording(9, 1), 1);
    is.eq("less", x.claim(9, 4, 0), 41);
    is.eq("not in CONFLICT", x.ofRecording(9, 1), 0);
    is.eq("the others have none", x.ofRecording(8, 0), 0);
    for (int party = 0; party < 5; party++) {
      x.claim(1, party, 100);
    }
    is.eq("all CLAIM all", x.ofRecording(1, 0), 500);
  }

  private static void promise5Conflict() {
    PlayPool x = Houses.oneSong(1);
    x.claim(0, 0, 60);
    x.claim(0, 1, 41);
    is.eq("nothing is PAID", x.pass(14400), 0);
    is.eq("it is HELD", x.ofRecording(0, 2), 700);
    is.eq("nothing is DUE", x.many(11), 0);
    is.eq("nothing is in the BOX", x.many(9), 0);
    x.play(0, 0, 14400, 60);
    is.eq("HELD still", x.pass(14400), 0);
    is.eq("more is HELD", x.ofRecording(0, 2), 1400);
    x.claim(0, 0, 59);
    is.eq("HELD until the next end of a MONTH", x.ofRecording(0, 2), 1400);
    is.eq("PAID then, without a PLAY", x.pass(14400), 826 + 574);
    is.eq("nothing is HELD", x.ofRecording(0, 2), 0);
    is.eq("got by SPLITS", x.ofRecording(0, 3), 1400);
    is.eq("what was not SPLIT", x.many(14), 700);
    is.eq("PAID", x.ofParty(0, 1), 826);
    is.eq("PAID", x.ofParty(1, 1), 574);
  }

  private static void promise6() {
    PlayPool x = new PlayPool();
    is.index("advance", () -> x.advance(-1, 5));
    is.index("advance", () -> x.advance(5, 5));
    is.argument("advance", () -> x.advance(0, 0));
    is.argument("advance", () -> x.advance(0, -5));
    is.argument("advance", () -> x.advance(0, 100000));
    is.index("PARTY ahead of amount", () -> x.advance(5, 0));
    is.eq("advance", x.advance(4, 99999), 99999);
    is.eq("more", x.advance(4, 1), 100000);
    is.eq("none by a throw", x.ofParty(0, 2), 0);
    is.eq("not DUE by that", x.ofParty(4, 0), 0);
    for (int i = 0; i < 100; i++) {
      x.advance(3, 99999);
    }
    is.eq("many ADVANCES", x.ofParty(3, 2), 9999900);
  }

  private static void promise6Recoups() {
    PlayPool x = Houses.oneSong(1);
    x.claim(0, 0, 100);
    x.advance(0, 201);
    is.eq("499 is not PAID", x.pass(14400), 0);
    is.eq("it is DUE", x.ofParty(0, 0), 499);
    is.eq("no ADVANCE is left", x.ofParty(0, 2), 0);
    is.eq("RECOUPED", x.ofParty(0, 3), 201);
    x.advance(0, 600);
    is.eq("what is DUE from before serves too", x.pass(14400), 0);
    is.eq("DUE", x.ofParty(0, 0), 0);
    is.eq("ADVANCE", x.ofParty(0, 2), 101);
    is.eq("RECOUPED", x.ofParty(0, 3), 700);
    PlayPool y = Houses.oneSong(1);
    y.claim(0, 0, 100);
    y.advance(0, 200);
    is.eq("500 is PAID", y.pass(14400), 500);
    is.eq("nothing is DUE", y.ofParty(0, 0), 0);
  }

  private static void promise7() {
    PlayPool x = Houses.twoSongs();
    is.argument("rule", () -> x.rule(-1));
    is.argument("rule", () -> x.rule(2));
    is.eq("rule", x.rule(1), 0);
    is.eq("rule", x.rule(1), 1);
    is.eq("the RULE", x.many(7), 1);
    x.pass(14400);
    is.eq("by LISTENER", x.ofRecording(0, 3), 607);
    is.eq("by LISTENER", x.ofRecording(1, 3), 233);
    PlayPool y = Houses.twoSongs();
    y.rule(1);
    is.eq("rule", y.rule(0), 1);
    y.pass(14400);
    is.eq("by LAND", y.ofRecording(0, 3), 630);
    is.eq("by LAND", y.ofRecording(1, 3), 210);
  }
}
