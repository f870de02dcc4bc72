/** Promises 14 to 23: what is asked. */
public final class AskedTest {
  private static final Checks is = new Checks();

  public static void main(String[] args) {
    promise14();
    promise15();
    promise16();
    promise17();
    promise18();
    promise19();
    promise20();
    promise21();
    promise22();
    promise22Closed();
    promise23();
    is.end("promises 14 to 23");
  }

  private static void promise14() {
    PlayPool x = new PlayPool();
    x.track(7);
    x.track(7);
    x.listener(1, 0);
    x.window(0, 0, 0, 9);
    x.window(0, 1, 0, 20);
    x.window(0, 1, 5, 99999);
    x.window(0, 3, 10, 30);
    x.play(0, 0, 0, 60);
    x.play(0, 0, 0, 20);
    x.play(0, 0, 0, 20);
    is.eq("RECORDING", x.ofTrack(0, 0), 7);
    is.eq("DOWN", x.ofTrack(0, 1), -1);
    is.eq("LANDS", x.ofTrack(0, 2), 1 + 2);
    is.eq("its PLAYS that COUNT", x.ofTrack(0, 3), 1);
    is.eq("those of another TRACK", x.ofTrack(1, 3), 0);
    is.eq("no LANDS", x.ofTrack(1, 2), 0);
    x.pass(10);
    x.down(0, true);
    is.eq("DOWN", x.ofTrack(0, 1), 10);
    is.eq("LANDS, though DOWN", x.ofTrack(0, 2), 2 + 8);
    x.pass(14400);
    is.eq("LANDS", x.ofTrack(0, 2), 2);
    is.eq("PLAYS of a CLOSED MONTH", x.ofTrack(0, 3), 1);
    is.index("ofTrack", () -> x.ofTrack(2, 0));
    is.index("ofTrack", () -> x.ofTrack(-1, 0));
    is.argument("ofTrack", () -> x.ofTrack(0, -1));
    is.argument("ofTrack", () -> x.ofTrack(0, 4));
    is.index("TRACK ahead of what", () -> x.ofTrack(2, 4));
  }

  private static void promise15() {
    PlayPool x = Houses.songs(3);
    x.window(0, 2, 0, 99999);
    x.window(1, 2, 0, 99999);
    x.listener(0, 1);
    x.listener(2, 2);
    x.keep(1, 0);
    x.keep(1, 1);
    x.play(1, 0, 0, 60);
    x.play(1, 0, 0, 29);
    x.play(0, 0, 0, 60);
    x.pass(14400);
    x.play(1, 1, 14400, 60);
    x.play(1, 1, 14400, 60);
    x.play(1, 2, 14400, 60);
    int[] due = {2, 2, 0, 2, 5, 3, 2, 500};
    for (int what = 0; what <= 7; what++) {
      is.eq("ofListener(1, " + what + ")", x.ofListener(1, what), due[what]);
    }
    is.eq("PLAYS of the first one", x.ofListener(0, 4), 1);
    x.flag(1, true);
    is.eq("FLAGGED", x.ofListener(1, 2), 1);
    is.eq("those that COUNT", x.ofListener(1, 5), 1);
    is.eq("those of this MONTH", x.ofListener(1, 6), 0);
    is.index("ofListener", () -> x.ofListener(2, 0));
    is.index("ofListener", () -> x.ofListener(-1, 0));
    is.argument("ofListener", () -> x.ofListener(0, -1));
    is.argument("ofListener", () -> x.ofListener(0, 8));
    is.index("LISTENER ahead of what", () -> x.ofListener(2, 8));
  }

  private static void promise16() {
    PlayPool x = Houses.songs(3);
    x.listener(0, 1);
    x.listener(0, 1);
    x.keep(1, 2);
    x.pass(14000);
    x.play(1, 2, 14000, 333);
    x.play(1, 2, 13000, 12);
    int[] due = {1, 2, 13000, 12, 1, 0};
    for (int what = 0; what <= 5; what++) {
      is.eq("ofPlay(1, " + what + ")", x.ofPlay(1, what), due[what]);
    }
    is.eq("by number, not by minute", x.ofPlay(0, 2), 14000);
    is.eq("SECONDS", x.ofPlay(0, 3), 333);
    x.pass(399);
    is.eq("not CLOSED", x.ofPlay(1, 5), 0);
    x.pass(1);
    is.eq("CLOSED", x.ofPlay(1, 5), 1);
    is.index("ofPlay", () -> x.ofPlay(2, 0));
    is.index("ofPlay", () -> x.ofPlay(-1, 0));
    is.argument("ofPlay", () -> x.ofPlay(0, -1));
    is.argument("ofPlay", () -> x.ofPlay(0, 6));
    is.index("PLAY ahead of what", () -> x.ofPlay(2, 6));
  }

  private static void promise17() {
    PlayPool x = Houses.oneSong(1);
    x.claim(0, 1, 80);
    x.claim(0, 2, 20);
    x.advance(1, 30);
    x.advance(2, 1000);
    is.eq("PAID", x.pass(14400), 530);
    int[][] due = {{0, 0, 0, 0}, {0, 530, 0, 30}, {0, 0, 860, 140}};
    for (int party = 0; party < due.length; party++) {
      for (int what = 0; what <= 3; what++) {
        is.eq("ofParty(" + party + ", " + what + ")", x.ofParty(party, what), due[party][what]);
      }
    }
    x.claim(0, 1, 50);
    x.play(0, 0, 14400, 60);
    is.eq("PAID", x.pass(14400), 0);
    is.eq("DUE", x.ofParty(1, 0), 350);
    is.eq("PAID ever", x.ofParty(1, 1), 530);
    x.play(0, 0, 28800, 60);
    is.eq("PAID with that of before", x.pass(14400), 700);
    is.eq("PAID ever", x.ofParty(1, 1), 1230);
    is.index("ofParty", () -> x.ofParty(5, 0));
    is.index("ofParty", () -> x.ofParty(-1, 0));
    is.argument("ofParty", () -> x.ofParty(0, -1));
    is.argument("ofParty", () -> x.ofParty(0, 4));
    is.index("PARTY ahead of what", () -> x.ofParty(5, 4));
  }

  private static void promise18() {
    PlayPool x = Houses.songs(2);
    x.track(1);
    x.window(2, 0, 0, 99999);
    x.listener(0, 0);
    x.claim(1, 0, 70);
    x.claim(1, 1, 70);
    x.play(0, 1, 0, 60);
    x.play(0, 2, 0, 60);
    x.play(0, 2, 0, 6);
    x.pass(14400);
    x.play(0, 2, 14400, 60);
    int[] due = {140, 1, 140, 140, 2, 3, 1};
    for (int what = 0; what <= 6; what++) {
      is.eq("ofRecording(1, " + what + ")", x.ofRecording(1, what), due[what]);
    }
    int[] none = {0, 0, 0, 0, 1, 0, 0};
    for (int what = 0; what <= 6; what++) {
      is.eq("ofRecording(0, " + what + ")", x.ofRecording(0, what), none[what]);
    }
    is.index("ofRecording", () -> x.ofRecording(10, 0));
    is.index("ofRecording", () -> x.ofRecording(-1, 0));
    is.argument("ofRecording", () -> x.ofRecording(0, -1));
    is.argument("ofRecording", () -> x.ofRecording(0, 7));
    is.index("RECORDING ahead of what", () -> x.ofRecording(10, 7));
  }

  private static void promise19() {
    PlayPool x = Houses.songs(2);
    x.window(0, 1, 0, 99999);
    x.window(1, 1, 0, 99999);
    x.listener(0, 1);
    x.listener(1, 0);
    x.listener(2, 2);
    x.listener(3, 0);
    x.claim(0, 0, 90);
    x.claim(0, 1, 10);
    x.claim(1, 0, 100);
    x.claim(1, 2, 1);
    x.advance(0, 100);
    x.play(0, 0, 0, 60);
    x.play(1, 0, 0, 60);
    x.play(1, 0, 0, 29);
    x.play(1, 1, 0, 60);
    x.rule(1);
    x.pass(14405);
    // RECORDING 0 gets 700 + 70: 693 less 100 is PAID, 77 is DUE; RECORDING 1 holds 70.
    int[] due = {14405, 1, 2, 4, 4, 4, 3, 1, 570, 0, 70, 77, 593, 100, 0, 0, 350, 140};
    for (int what = 0; what <= 17; what++) {
      is.eq("many(" + what + ")", x.many(what), due[what]);
    }
    x.claim(0, 1, 9);
    x.play(0, 0, 14405, 60);
    x.pass(14400);
    is.eq("the BOX", x.many(9), 7);
    is.eq("the CARRY of LAND 1", x.many(15), 140);
    is.argument("many", () -> x.many(-1));
    is.argument("many", () -> x.many(18));
  }

  private static void promise20() {
    PlayPool x = Houses.songs(3);
    x.listener(0, 0);
    x.listener(1, 0);
    x.listener(0, 0);
    x.down(2, true);
    x.flag(2, true);
    for (int i = 0; i < 7; i++) {
      x.play(0, 0, 0, 60);
    }
    x.play(0, 1, 0, 5);
    x.play(0, 1, 0, 5);
    x.play(0, 1, 0, 5);
    x.play(1, 0, 0, 60);
    for (int i = 0; i < 4; i++) {
      x.play(0, 2, 0, 60);
    }
    for (int i = 0; i < 6; i++) {
      x.play(2, 0, 0, 60);
    }
    int[] due = {5, 3, 1, 4, 6, 2};
    for (int reason = 0; reason <= 5; reason++) {
      is.eq("reasons(" + reason + ")", x.reasons(reason), due[reason]);
    }
    x.pass(14400);
    x.flag(2, false);
    x.down(2, false);
    for (int reason = 0; reason <= 5; reason++) {
      is.eq("CLOSED, reasons(" + reason + ")", x.reasons(reason), due[reason]);
    }
    is.index("reasons", () -> x.reasons(-1));
    is.index("reasons", () -> x.reasons(6));
  }

  private static void promise21() {
    PlayPool x = Houses.songs(1);
    is.eqDouble("without any", x.meanSeconds(), 0.0);
    x.listener(0, 0);
    x.play(0, 0, 0, 29);
    is.eqDouble("without any that COUNT", x.meanSeconds(), 0.0);
    x.play(0, 0, 0, 30);
    is.eqDouble("one", x.meanSeconds(), 30.0);
    x.play(0, 0, 0, 31);
    is.eqDouble("two, not rounded", x.meanSeconds(), 30.5);
    x.play(0, 0, 0, 600);
    is.eqDouble("three, not rounded", x.meanSeconds(), 661.0 / 3);
    x.pass(14400);
    is.eqDouble("of any MONTH", x.meanSeconds(), 661.0 / 3);
    PlayPool y = Houses.oneSong(0);
    is.eqDouble("the first PLAY is among them", y.meanSeconds(), 60.0);
  }

  private static void promise22() {
    PlayPool x = Houses.songs(5);
    x.window(4, 1, 0, 99999);
    x.listener(0, 0);
    x.listener(0, 1);
    x.listener(1, 2);
    x.play(0, 3, 0, 60);
    x.play(0, 3, 0, 60);
    x.play(1, 2, 0, 60);
    x.play(0, 1, 0, 60);
    x.play(0, 0, 0, 29);
    x.play(2, 4, 0, 60);
    x.play(2, 4, 0, 60);
    int[] due = {2, 3, 1, -1, -1};
    for (int k = 0; k < due.length; k++) {
      is.eq("of as many POINTS the smallest number, " + k, x.chart(0, k), due[k]);
    }
    is.eq("another LAND", x.chart(1, 0), 4);
    is.eq("another LAND", x.chart(1, 1), -1);
    is.eq("one without LISTENERS", x.chart(2, 0), -1);
    is.eq("far down", x.chart(0, Integer.MAX_VALUE), -1);
    x.plan(0, 2);
    is.eq("by the PLAN NOW", x.chart(0, 0), 3);
    is.eq("by the PLAN NOW", x.chart(0, 1), 1);
    is.eq("by the PLAN NOW", x.chart(0, 2), 2);
    x.plan(0, 0);
    x.plan(1, 0);
    is.eq("by the PLAN NOW", x.chart(0, 0), 3);
    is.eq("by the PLAN NOW", x.chart(0, 1), 1);
    is.index("chart", () -> x.chart(-1, 0));
    is.index("chart", () -> x.chart(4, 0));
    is.argument("chart", () -> x.chart(0, -1));
    is.index("LAND ahead of k", () -> x.chart(4, -1));
  }

  private static void promise22Closed() {
    PlayPool x = Houses.oneSong(0);
    is.eq("in the MONTH of NOW", x.chart(0, 0), 0);
    x.pass(14399);
    is.eq("in the MONTH of NOW", x.chart(0, 0), 0);
    x.pass(1);
    is.eq("not in the next one", x.chart(0, 0), -1);
  }

  private static void promise23() {
    PlayPool x = Houses.songs(4);
    for (int listener = 0; listener < 3; listener++) {
      x.listener(0, 0);
      x.play(listener, 0, 0, 60);
      x.play(listener, 0, 0, 60);
    }
    x.play(0, 1, 0, 60);
    x.pass(14400);
    x.play(1, 1, 14400, 60);
    x.play(2, 1, 14400, 29);
    x.play(2, 2, 14400, 60);
    is.eq("two heard both, in any MONTH", x.alike(0, 1), 2);
    is.eq("the other way round", x.alike(1, 0), 2);
    is.eq("one heard both", x.alike(0, 2), 1);
    is.eq("none heard both", x.alike(1, 2), 0);
    is.eq("nobody heard it", x.alike(9, 0), 0);
    x.flag(1, true);
    is.eq("those that COUNT", x.alike(0, 1), 1);
    is.index("alike", () -> x.alike(-1, 0));
    is.index("alike", () -> x.alike(10, 0));
    is.index("alike", () -> x.alike(0, -1));
    is.index("alike", () -> x.alike(0, 10));
    is.argument("alike", () -> x.alike(9, 9));
    is.index("no RECORDING ahead of the same", () -> x.alike(10, 10));
  }
}
