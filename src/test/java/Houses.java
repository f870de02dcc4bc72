/** Houses that several tests begin with. */
final class Houses {
  private Houses() {
  }

  /** TRACK k of RECORDING k, each ALLOWED in LAND 0 always. */
  static PlayPool songs(int many) {
    PlayPool x = new PlayPool();
    for (int k = 0; k < many; k++) {
      x.track(k);
      x.window(k, 0, 0, 99999);
    }
    return x;
  }

  /** One song, and one LISTENER of that PLAN who has heard it once. */
  static PlayPool oneSong(int plan) {
    PlayPool x = songs(1);
    x.listener(0, plan);
    x.play(0, 0, 0, 60);
    return x;
  }

  /** A PAID one heard song 0 twice and song 1 once, a FREE one song 0 once. */
  static PlayPool twoSongs() {
    PlayPool x = songs(2);
    x.listener(0, 1);
    x.listener(0, 0);
    x.play(0, 0, 0, 60);
    x.play(0, 0, 0, 60);
    x.play(0, 1, 0, 60);
    x.play(1, 0, 0, 60);
    return x;
  }
}
