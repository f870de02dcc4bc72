/** Promises 24 to 27: what would be, and that nothing is changed by asking. */
public final class WouldBeTest {
  private static final Checks is = new Checks();

  public static void main(String[] args) {
    promise24();
    promise24Hearable();
    promise24Ties();
    promise24Unheard();
    promise24Full();
    promise25();
    promise26();
    promise26Again();
    promise27();
    promise27Order();
    is.end("promises 24 to 27");
  }

  private static void promise24() {
    PlayPool x = Houses.songs(4);
    x.listener(0, 0);
    is.eq("nothing is ALIKE", x.next(0), 0);
    x.listener(0, 0);
    x.listener(0, 0);
    x.play(0, 0, 0, 60);
    x.play(1, 0, 0, 60);
    x.play(1, 3, 0, 60);
    is.eq("the most ALIKE", x.next(0), 3);
    is.eq("of as many PLAYS the smallest number", x.next(1), 1);
    is.eq("most PLAYS for one who heard nothing", x.next(2), 0);
    x.pass(14400);
    is.eq("of any MONTH", x.next(0), 3);
    x.play(0, 1, 14400, 60);
    x.play(0, 2, 14400, 60);
    x.play(0, 3, 14400, 29);
    is.eq("one that does not COUNT is not heard", x.next(0), 3);
    x.play(0, 3, 14400, 30);
    is.eq("all are heard", x.next(0), -1);
    is.index("next", () -> x.next(3));
    is.index("next", () -> x.next(-1));
    is.index("next", () -> new PlayPool().next(0));
  }

  private static void promise24Hearable() {
    PlayPool x = new PlayPool();
    x.track(5);
    x.track(5);
    x.listener(2, 0);
    is.eq("not ALLOWED", x.next(0), -1);
    x.window(0, 1, 0, 99999);
    is.eq("ALLOWED elsewhere", x.next(0), -1);
    x.window(0, 2, 10, 20);
    is.eq("not ALLOWED yet", x.next(0), -1);
    x.pass(10);
    is.eq("ALLOWED NOW", x.next(0), 5);
    x.down(0, true);
    is.eq("DOWN", x.next(0), -1);
    x.window(1, 2, 12, 99999);
    is.eq("one is DOWN, the other not ALLOWED", x.next(0), -1);
    x.pass(2);
    is.eq("the other is ALLOWED", x.next(0), 5);
    x.down(1, true);
    x.down(0, false);
    is.eq("the first is put back", x.next(0), 5);
    x.pass(9);
    is.eq("not ALLOWED any more", x.next(0), -1);
  }

  private static void promise24Ties() {
    PlayPool x = Houses.songs(6);
    for (int listener = 0; listener < 4; listener++) {
      x.listener(0, 0);
    }
    x.play(0, 0, 0, 60);
    x.play(0, 1, 0, 60);
    x.play(1, 0, 0, 60);
    x.play(1, 2, 0, 60);
    x.play(2, 1, 0, 60);
    x.play(2, 4, 0, 60);
    is.eq("as much ALIKE, as many PLAYS", x.next(0), 2);
    x.play(3, 4, 0, 60);
    is.eq("as much ALIKE, more PLAYS", x.next(0), 4);
    x.play(3, 5, 0, 60);
    x.play(3, 5, 0, 60);
    x.play(3, 5, 0, 60);
    is.eq("more PLAYS, but less ALIKE", x.next(0), 4);
    x.play(1, 3, 0, 60);
    x.play(2, 3, 0, 60);
    is.eq("the sum counts", x.next(0), 3);
  }

  private static void promise24Unheard() {
    PlayPool x = Houses.songs(4);
    for (int listener = 0; listener < 4; listener++) {
      x.listener(0, 0);
    }
    x.play(0, 0, 0, 60);
    x.play(1, 0, 0, 60);
    x.play(1, 1, 0, 60);
    x.play(2, 2, 0, 60);
    x.play(2, 3, 0, 60);
    x.play(3, 2, 0, 60);
    x.play(3, 3, 0, 60);
    is.eq("ALIKE to what it has not heard is nothing", x.next(0), 1);
  }

  private static void promise24Full() {
    PlayPool x = new PlayPool();
    for (int track = 0; track < 14; track++) {
      x.track(9 - track % 10);
    }
    for (int listener = 0; listener < 8; listener++) {
      x.listener(listener % 2, listener % 3);
    }
    is.eq("none is ALLOWED", x.next(7), -1);
    x.window(13, 1, 0, 99999);
    is.eq("by its last TRACK", x.next(7), 6);
    x.play(7, 13, 0, 60);
    is.eq("the POOL of four", x.wouldGet(6, 0), 700 + 140 + 350 + 700);
    is.eq("the chart of a full house", x.chart(1, 0), 6);
    is.eq("no PAY", x.pass(14400), 0);
    is.eq("the BOX of a full house", x.many(9), 1890);
    is.eq("the last LISTENER pays", x.ofListener(7, 7), 1000);
  }

  private static void promise25() {
    PlayPool x = Houses.twoSongs();
    is.eq("by LAND", x.wouldGet(0, 0), 630);
    is.eq("by LAND", x.wouldGet(1, 0), 210);
    is.eq("by LISTENER", x.wouldGet(0, 1), 607);
    is.eq("by LISTENER", x.wouldGet(1, 1), 233);
    is.eq("none", x.wouldGet(9, 0), 0);
    x.claim(0, 0, 100);
    x.claim(0, 1, 100);
    is.eq("in CONFLICT too", x.wouldGet(0, 0), 630);
    x.plan(0, 0);
    is.eq("by the PLAN NOW", x.wouldGet(1, 0), 70);
    is.eq("nothing was HELD by asking", x.many(10), 0);
    is.eq("nothing was taken by asking", x.many(8), 0);
    is.eq("nothing was paid by asking", x.ofListener(0, 7), 0);
    is.eq("nothing was got by asking", x.ofRecording(0, 3), 0);
    is.eq("no MONTH was CLOSED by asking", x.many(1), 0);
    x.plan(0, 1);
    x.pass(14400);
    is.eq("got as was said", x.ofRecording(0, 3), 630);
    is.eq("no PLAYS in this MONTH", x.wouldGet(0, 0), 0);
    is.eq("nor is what is HELD got", x.wouldGet(0, 1), 0);
    is.eq("no CARRY by asking", x.many(14), 0);
    x.pass(14400);
    x.play(1, 1, 28800, 60);
    is.eq("with the CARRY", x.wouldGet(1, 0), 1680);
    is.eq("with the CARRY", x.wouldGet(1, 1), 980);
    is.index("wouldGet", () -> x.wouldGet(-1, 0));
    is.index("wouldGet", () -> x.wouldGet(10, 0));
    is.argument("wouldGet", () -> x.wouldGet(0, -1));
    is.argument("wouldGet", () -> x.wouldGet(0, 2));
    is.index("RECORDING ahead of RULE", () -> x.wouldGet(10, 2));
  }

  private static void promise26() {
    PlayPool x = Houses.twoSongs();
    x.claim(0, 3, 80);
    x.claim(1, 4, 100);
    is.eq("504", x.wouldPay(3, 0), 504);
    is.eq("485 is below 500", x.wouldPay(3, 1), 0);
    is.eq("210 is below 500", x.wouldPay(4, 0), 0);
    x.advance(3, 4);
    is.eq("less its ADVANCE", x.wouldPay(3, 0), 500);
    x.advance(3, 1);
    is.eq("499 is below 500", x.wouldPay(3, 0), 0);
    is.eq("nothing was RECOUPED by asking", x.ofParty(3, 3), 0);
    is.eq("no ADVANCE was taken by asking", x.ofParty(3, 2), 5);
    is.eq("nothing is DUE by asking", x.many(11), 0);
    is.eq("nothing was PAID by asking", x.many(12), 0);
    x.pass(14400);
    is.eq("DUE", x.ofParty(3, 0), 499);
    x.play(0, 0, 14400, 60);
    is.eq("what is DUE already is PAID too", x.wouldPay(3, 0), 499 + 672);
    x.claim(0, 2, 21);
    is.eq("in CONFLICT", x.wouldPay(3, 0), 0);
    x.pass(14400);
    is.eq("HELD", x.many(10), 840);
    x.claim(0, 2, 20);
    is.eq("what was HELD is PAID too", x.wouldPay(3, 1), 499 + 672);
    is.eq("PAID as was said", x.pass(14400), 499 + 672);
    is.index("wouldPay", () -> x.wouldPay(-1, 0));
    is.index("wouldPay", () -> x.wouldPay(5, 0));
    is.argument("wouldPay", () -> x.wouldPay(0, -1));
    is.argument("wouldPay", () -> x.wouldPay(0, 2));
    is.index("PARTY ahead of RULE", () -> x.wouldPay(5, 2));
  }

  private static void promise26Again() {
    PlayPool x = Houses.oneSong(1);
    x.claim(0, 0, 100);
    x.pass(14400);
    is.eq("what was PAID is not PAID again", x.wouldPay(0, 0), 0);
    x.play(0, 0, 14400, 60);
    is.eq("what was got is not got again", x.wouldGet(0, 0), 700);
    is.eq("this MONTH alone", x.wouldPay(0, 0), 700);
  }

  private static void promise27() {
    is.eq("new", new PlayPool().digest(), -4262307210156669650L);
    PlayPool x = Houses.twoSongs();
    long before = x.digest();
    is.eq("as it was", x.digest(), before);
    x.flag(1, true);
    is.note(x.digest() != before, "digest() is the same with one FLAGGED");
    x.flag(1, false);
    is.eq("as it was", x.digest(), before);
  }

  private static void promise27Order() {
    PlayPool x = Houses.twoSongs();
    x.window(1, 2, 0, 99999);
    x.listener(2, 2);
    x.claim(0, 0, 50);
    x.claim(1, 1, 60);
    x.claim(1, 2, 50);
    x.advance(0, 100);
    x.keep(2, 1);
    x.pass(15000);
    x.down(0, true);
    x.play(2, 1, 14999, 77);
    x.play(1, 1, 15000, 20);
    x.play(0, 1, 15000, 200);
    is.eq("by hand", x.digest(), byHand(x));
  }

  private static long byHand(PlayPool x) {
    long d = 9106;
    for (int what = 0; what <= 17; what++) {
      d = d * 31 + x.many(what);
    }
    for (int reason = 0; reason <= 5; reason++) {
      d = d * 31 + x.reasons(reason);
    }
    for (int track = 0; track < x.many(2); track++) {
      for (int what = 0; what <= 3; what++) {
        d = d * 31 + x.ofTrack(track, what);
      }
    }
    for (int listener = 0; listener < x.many(4); listener++) {
      for (int what = 0; what <= 7; what++) {
        d = d * 31 + x.ofListener(listener, what);
      }
      d = d * 31 + x.next(listener);
    }
    for (int party = 0; party <= 4; party++) {
      for (int what = 0; what <= 3; what++) {
        d = d * 31 + x.ofParty(party, what);
      }
      d = (d * 31 + x.wouldPay(party, 0)) * 31 + x.wouldPay(party, 1);
    }
    for (int recording = 0; recording <= 9; recording++) {
      for (int what = 0; what <= 6; what++) {
        d = d * 31 + x.ofRecording(recording, what);
      }
      d = (d * 31 + x.wouldGet(recording, 0)) * 31 + x.wouldGet(recording, 1);
    }
    for (int land = 0; land <= 3; land++) {
      d = (d * 31 + x.chart(land, 0)) * 31 + x.chart(land, 1);
    }
    d = d * 31 + x.alike(0, 1);
    for (int play = 0; play < x.many(5); play++) {
      d = d * 31 + x.ofPlay(play, 4);
    }
    return d;
  }
}
