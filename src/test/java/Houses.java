/** Houses that several tests begin with. */
final class Houses {
  // Which TRACKS are ALLOWED in each LAND of the full house.
  private static final int[] FIRST_THERE = {0, 6, 0, 7};
  private static final int[] TRACKS_THERE = {8, 8, 7, 7};

  private Houses() {
  }

  /** TRACK k of RECORDING k, each ALLOWED in LAND 0 always. */
  static PlayPool songs(int many) {
    PlayPool x = new PlayPool();
    for (int k = 0; k < many; k++) {
      x.track(k);
      x.window(k, 0, 0, 99999);
    }
    return x;
  }

  /** One song, and one LISTENER of that PLAN who has heard it once. */
  static PlayPool oneSong(int plan) {
    PlayPool x = songs(1);
    x.listener(0, plan);
    x.play(0, 0, 0, 60);
    return x;
  }

  /** A PAID one heard song 0 twice and song 1 once, a FREE one song 0 once. */
  static PlayPool twoSongs() {
    PlayPool x = songs(2);
    x.listener(0, 1);
    x.listener(0, 0);
    x.play(0, 0, 0, 60);
    x.play(0, 0, 0, 60);
    x.play(0, 1, 0, 60);
    x.play(1, 0, 0, 60);
    return x;
  }

  /** One TRACK without a WINDOW, and one LISTENER of that PLAN. */
  static PlayPool noWindow(int plan) {
    PlayPool x = new PlayPool();
    x.track(0);
    x.listener(0, plan);
    return x;
  }

  /** Song 0 in all of LAND 0, KEPT by a PAID LISTENER; NOW is that minute. */
  static PlayPool keptSong(int minute) {
    PlayPool x = songs(1);
    x.listener(0, 1);
    x.keep(0, 0);
    passTo(x, minute);
    return x;
  }

  /** Lets all minutes up to that one go by; answers what was PAID. */
  static int passTo(PlayPool x, int minute) {
    int paid = 0;
    while (x.many(0) < minute) {
      paid += x.pass(Math.min(20000, minute - x.many(0)));
    }
    return paid;
  }

  /** That many PLAYS of 60 SECONDS. */
  static void plays(PlayPool x, int listener, int track, int minute, int many) {
    for (int i = 0; i < many; i++) {
      x.play(listener, track, minute, 60);
    }
  }

  /**
   * 14 TRACKS, 30 WINDOWS, 8 LISTENERS, 3 on each PHONE and 130 PLAYS, all of which COUNT; each
   * PARTY CLAIMS 20 hundredths of each RECORDING. It takes 264 calls.
   */
  static PlayPool full() {
    PlayPool x = new PlayPool();
    for (int track = 0; track < 14; track++) {
      x.track(track % 10);
    }
    for (int land = 0; land < 4; land++) {
      for (int i = 0; i < TRACKS_THERE[land]; i++) {
        x.window(FIRST_THERE[land] + i, land, 0, 99999);
      }
    }
    for (int listener = 0; listener < 8; listener++) {
      x.listener(listener % 4, listener % 3);
      for (int i = 0; i < 4; i++) {
        x.keep(listener, FIRST_THERE[listener % 4] + i);
      }
    }
    for (int play = 0; play < 130; play++) {
      int land = play % 4;
      x.play(play % 8, FIRST_THERE[land] + play / 8 % TRACKS_THERE[land], 0, 30 + play);
    }
    for (int claim = 0; claim < 50; claim++) {
      x.claim(claim / 5, claim % 5, 20);
    }
    return x;
  }
}
