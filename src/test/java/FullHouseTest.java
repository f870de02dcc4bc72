/** The full house: as many as there can be of each thing, worked out by hand. */
public final class FullHouseTest {
  private static final int MONTH = 14400;
  private static final Checks is = new Checks();

  // By the RULE 0, and by the RULE 1.
  private static final int[][] GOT = {
    {452, 427, 396, 395, 163, 163, 322, 386, 284, 232},
    {437, 429, 399, 397, 165, 164, 332, 386, 282, 229}};

  public static void main(String[] args) {
    isFull();
    hasNoRoom();
    tracks();
    listeners();
    phones();
    recordings();
    plays();
    charts();
    alike();
    next();
    closedByEachRule();
    digest();
    is.end("the full house");
  }

  private static void isFull() {
    PlayPool x = Houses.full();
    int[] due = {0, 0, 14, 30, 8, 130, 130, 0, 0, 0, 0, 0, 0, 0, 0, 0, 0, 0};
    for (int what = 0; what <= 17; what++) {
      is.eq("full: many(" + what + ")", x.many(what), due[what]);
    }
    for (int reason = 0; reason <= 5; reason++) {
      is.eq("full: reasons(" + reason + ")", x.reasons(reason), reason == 0 ? 130 : 0);
    }
    is.eqDouble("full: meanSeconds", x.meanSeconds(), 94.5);
  }

  private static void hasNoRoom() {
    PlayPool x = Houses.full();
    is.state("a 15th TRACK", () -> x.track(0));
    is.state("a 31st WINDOW", () -> x.window(13, 3, 0, 99999));
    is.state("a 9th LISTENER", () -> x.listener(0, 0));
    is.state("a 131st PLAY", () -> x.play(7, 13, 0, 60));
    x.pass(1);
    is.state("a 131st PLAY, offline", () -> x.play(0, 1, 0, 60));
    is.state("a 131st PLAY, online", () -> x.play(0, 0, 1, 60));
    int[] due = {14, 30, 8, 130};
    for (int what = 2; what <= 5; what++) {
      is.eq("no more: many(" + what + ")", x.many(what), due[what - 2]);
    }
  }

  private static void tracks() {
    PlayPool x = Houses.full();
    int[] lands = {5, 5, 5, 5, 5, 5, 7, 11, 10, 10, 10, 10, 10, 10};
    int[] counted = {11, 10, 8, 8, 8, 8, 13, 14, 10, 8, 8, 8, 8, 8};
    for (int track = 0; track < 14; track++) {
      is.eq("RECORDING of " + track, x.ofTrack(track, 0), track % 10);
      is.eq("DOWN of " + track, x.ofTrack(track, 1), -1);
      is.eq("LANDS of " + track, x.ofTrack(track, 2), lands[track]);
      is.eq("PLAYS that COUNT of " + track, x.ofTrack(track, 3), counted[track]);
    }
    is.index("TRACK 14", () -> x.ofTrack(14, 0));
  }

  private static void listeners() {
    PlayPool x = Houses.full();
    for (int listener = 0; listener < 8; listener++) {
      int plays = listener < 2 ? 17 : 16;
      int[] due = {listener % 4, listener % 3, 0, 3, plays, plays, plays, 0};
      for (int what = 0; what <= 7; what++) {
        is.eq("ofListener(" + listener + ", " + what + ")", x.ofListener(listener, what),
            due[what]);
      }
    }
    is.index("LISTENER 8", () -> x.ofListener(8, 0));
  }

  private static void phones() {
    PlayPool x = Houses.full();
    int[] first = {0, 6, 0, 7};
    for (int listener = 0; listener < 8; listener++) {
      int one = listener;
      int track = first[listener % 4];
      for (int i = 1; i <= 3; i++) {
        int kept = track + i;
        is.state("KEPT", () -> x.keep(one, kept));
      }
      is.eq("for longest", x.keep(listener, track), track + 1);
      is.eq("then", x.keep(listener, track + 4), track + 2);
      is.eq("then", x.keep(listener, track + 1), track + 3);
      is.eq("then the first again", x.keep(listener, track + 2), track);
      is.eq("three of them", x.ofListener(listener, 3), 3);
    }
  }

  private static void recordings() {
    PlayPool x = Houses.full();
    int[] counted = {19, 18, 16, 16, 8, 8, 13, 14, 10, 8};
    for (int recording = 0; recording < 10; recording++) {
      int[] due = {100, 0, 0, 0, recording < 4 ? 2 : 1, counted[recording], counted[recording]};
      for (int what = 0; what <= 6; what++) {
        is.eq("ofRecording(" + recording + ", " + what + ")", x.ofRecording(recording, what),
            due[what]);
      }
    }
  }

  private static void plays() {
    PlayPool x = Houses.full();
    PlayPool y = Houses.full();
    int[] first = {0, 6, 0, 7};
    int[] many = {8, 8, 7, 7};
    for (int play = 0; play < 130; play++) {
      int land = play % 4;
      is.eq("its LISTENER", x.ofPlay(play, 0), play % 8);
      is.eq("its TRACK", y.ofPlay(play, 1), first[land] + play / 8 % many[land]);
    }
    for (int play : new int[] {0, 64, 128, 129}) {
      is.eq("its minute", x.ofPlay(play, 2), 0);
      is.eq("its SECONDS", x.ofPlay(play, 3), 30 + play);
      is.eq("its REASON", x.ofPlay(play, 4), 0);
      is.eq("not CLOSED", x.ofPlay(play, 5), 0);
    }
    x.pass(MONTH);
    is.eq("the last one CLOSED", x.ofPlay(129, 5), 1);
    is.index("PLAY 130", () -> x.ofPlay(130, 0));
  }

  private static void charts() {
    PlayPool x = Houses.full();
    int[][] due = {{0, 1, 2, 3, 4, 5, 6, 7, -1, -1, -1}, {6, 0, 1, 2, 3, 7, 8, 9, -1, -1, -1},
        {0, 1, 2, 3, 4, 5, 6, -1, -1, -1, -1}, {7, 8, 0, 1, 2, 3, 9, -1, -1, -1, -1}};
    for (int land = 0; land <= 3; land++) {
      for (int k = 0; k <= 10; k++) {
        is.eq("chart(" + land + ", " + k + ")", x.chart(land, k), due[land][k]);
      }
    }
  }

  private static void alike() {
    PlayPool x = Houses.full();
    is.eq("all eight", x.alike(0, 1), 8);
    is.eq("all eight", x.alike(3, 0), 8);
    is.eq("four", x.alike(6, 7), 4);
    is.eq("six", x.alike(6, 0), 6);
    is.eq("four", x.alike(0, 9), 4);
    is.eq("none", x.alike(4, 8), 0);
    is.eq("none", x.alike(9, 5), 0);
  }

  private static void next() {
    PlayPool x = Houses.full();
    for (int listener = 0; listener < 8; listener++) {
      is.eq("all is heard", x.next(listener), -1);
    }
    x.flag(0, true);
    is.eq("16 PLAYS each, the smallest number", x.next(0), 0);
    x.flag(0, false);
    x.flag(1, true);
    // Of RECORDING 0 there COUNT 17, of 1 16; 6 and 7 have 10 and 12.
    is.eq("most PLAYS", x.next(1), 0);
    x.down(10, true);
    is.eq("the other TRACK is not ALLOWED there", x.next(1), 1);
  }

  // Each PARTY has 20 hundredths of each, rounded down: 640 in all, or 639.
  private static void closedByEachRule() {
    for (int rule = 0; rule <= 1; rule++) {
      PlayPool x = Houses.full();
      int each = 640 - rule;
      for (int recording = 0; recording < 10; recording++) {
        is.eq("would get", x.wouldGet(recording, rule), GOT[rule][recording]);
      }
      for (int party = 0; party <= 4; party++) {
        is.eq("would be PAID", x.wouldPay(party, rule), each);
      }
      x.rule(rule);
      is.eq("PAID", x.pass(MONTH), 5 * each);
      for (int recording = 0; recording < 10; recording++) {
        is.eq("got", x.ofRecording(recording, 3), GOT[rule][recording]);
        is.eq("nothing HELD", x.ofRecording(recording, 2), 0);
      }
      for (int party = 0; party <= 4; party++) {
        is.eq("PAID", x.ofParty(party, 1), each);
      }
      int[] due = {1380, 3220 - 5 * each, 0, 0, 5 * each, 0, 0, 0, 0, 0};
      for (int what = 8; what <= 17; what++) {
        is.eq("CLOSED: many(" + what + ")", x.many(what), due[what - 8]);
      }
    }
  }

  private static void digest() {
    is.eq("full: digest", Houses.full().digest(), Questions.digestOf(Houses::full));
    Questions.Made closed = () -> {
      PlayPool x = Houses.full();
      x.pass(MONTH + 1);
      return x;
    };
    is.eq("CLOSED: digest", closed.house().digest(), Questions.digestOf(closed));
  }
}
