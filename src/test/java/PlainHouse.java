import java.util.ArrayList;
import java.util.HashMap;
import java.util.List;
import java.util.Map;

/**
 * The document once more, in its plainest form and another shape than PlayPool, to be compared with
 * it: nothing is kept that can be found out anew, and what would be is tried on a copy.
 */
final class PlainHouse {
  private record Track(int recording) {
  }

  private record Window(int track, int land, int from, int to) {
  }

  private record Play(int number, int listener, int track, int minute, int seconds) {
    boolean isBefore(Play other) {
      return minute < other.minute || (minute == other.minute && number < other.number);
    }
  }

  private final List<Track> tracks = new ArrayList<>();
  private final Map<Integer, Integer> down = new HashMap<>();
  private final List<Window> windows = new ArrayList<>();
  private final List<Integer> lands = new ArrayList<>();
  private final List<Integer> plans = new ArrayList<>();
  private final List<Boolean> flags = new ArrayList<>();
  private final List<Integer> paidBy = new ArrayList<>();
  private final List<List<Integer>> phones = new ArrayList<>();
  private final List<Play> plays = new ArrayList<>();
  private final Map<Integer, Integer> frozen = new HashMap<>();
  private final Map<Integer, Integer> found = new HashMap<>();
  private final long[][] claims = new long[10][5];
  private final long[] carry = new long[4];
  private final long[] held = new long[10];
  private final long[] got = new long[10];
  private final long[] due = new long[5];
  private final long[] paid = new long[5];
  private final long[] advances = new long[5];
  private final long[] recouped = new long[5];
  private long house = 0;
  private long box = 0;
  private int now = 0;
  private int rule = 0;

  private PlainHouse copy() {
    PlainHouse c = new PlainHouse();
    c.tracks.addAll(tracks);
    c.down.putAll(down);
    c.windows.addAll(windows);
    c.lands.addAll(lands);
    c.plans.addAll(plans);
    c.flags.addAll(flags);
    c.paidBy.addAll(paidBy);
    c.plays.addAll(plays);
    c.frozen.putAll(frozen);
    for (int r = 0; r < 10; r++) {
      c.claims[r] = claims[r].clone();
      c.held[r] = held[r];
      c.got[r] = got[r];
    }
    for (int p = 0; p < 5; p++) {
      c.due[p] = due[p];
      c.paid[p] = paid[p];
      c.advances[p] = advances[p];
      c.recouped[p] = recouped[p];
    }
    System.arraycopy(carry, 0, c.carry, 0, 4);
    c.now = now;
    return c;
  }

  private static void index(boolean fine) {
    if (!fine) {
      throw new IndexOutOfBoundsException();
    }
  }

  private static void argument(boolean fine) {
    if (!fine) {
      throw new IllegalArgumentException();
    }
  }

  private static void state(boolean fine) {
    if (!fine) {
      throw new IllegalStateException();
    }
  }

  private static boolean in(int value, int least, int most) {
    return least <= value && value <= most;
  }

  public int track(int recording) {
    index(in(recording, 0, 9));
    state(tracks.size() < 14);
    tracks.add(new Track(recording));
    return tracks.size() - 1;
  }

  public int window(int track, int land, int from, int to) {
    index(in(track, 0, tracks.size() - 1) && in(land, 0, 3));
    argument(in(from, 0, 99999) && in(to, from, 99999));
    state(windows.size() < 30);
    windows.add(new Window(track, land, from, to));
    return windows.size();
  }

  public int down(int track, boolean is) {
    index(in(track, 0, tracks.size() - 1));
    state(down.containsKey(track) != is);
    Integer before = is ? down.put(track, now) : down.remove(track);
    return before == null ? -1 : before;
  }

  public int claim(int recording, int party, int hundredths) {
    index(in(recording, 0, 9) && in(party, 0, 4));
    argument(in(hundredths, 0, 100));
    claims[recording][party] = hundredths;
    return (int) sum(claims[recording]);
  }

  public int advance(int party, int amount) {
    index(in(party, 0, 4));
    argument(in(amount, 1, 99999));
    advances[party] += amount;
    return (int) advances[party];
  }

  public int rule(int to) {
    argument(in(to, 0, 1));
    int before = rule;
    rule = to;
    return before;
  }

  public int listener(int land, int plan) {
    index(in(land, 0, 3));
    argument(in(plan, 0, 2));
    state(lands.size() < 8);
    lands.add(land);
    plans.add(plan);
    flags.add(false);
    paidBy.add(0);
    phones.add(new ArrayList<>());
    return lands.size() - 1;
  }

  public int plan(int listener, int plan) {
    index(in(listener, 0, lands.size() - 1));
    argument(in(plan, 0, 2));
    return plans.set(listener, plan);
  }

  public boolean flag(int listener, boolean is) {
    index(in(listener, 0, lands.size() - 1));
    return flags.set(listener, is);
  }

  public int keep(int listener, int track) {
    index(in(listener, 0, lands.size() - 1) && in(track, 0, tracks.size() - 1));
    List<Integer> phone = phones.get(listener);
    state(!phone.contains(track));
    state(allowed(track, lands.get(listener), now));
    state(!down.containsKey(track));
    phone.add(track);
    return phone.size() > 3 ? phone.remove(0) : -1;
  }

  public int play(int listener, int track, int minute, int seconds) {
    index(in(listener, 0, lands.size() - 1) && in(track, 0, tracks.size() - 1));
    argument(in(minute, 0, now) && in(seconds, 0, 600));
    state(minute / 14400 == now / 14400);
    state(minute == now || phones.get(listener).contains(track));
    state(plays.size() < 130);
    Play play = new Play(plays.size(), listener, track, minute, seconds);
    plays.add(play);
    return reason(play);
  }

  public int pass(int minutes) {
    argument(in(minutes, 1, 20000));
    state(now + minutes <= 99999);
    long before = sum(paid);
    for (int i = 0; i < minutes; i++) {
      if ((now + 1) % 14400 == 0) {
        close(rule);
      }
      now++;
    }
    return (int) (sum(paid) - before);
  }

  private boolean allowed(int track, int land, int minute) {
    return windows.stream().anyMatch(
        w -> w.track == track && w.land == land && in(minute, w.from, w.to));
  }

  private int recordingOf(Play play) {
    return tracks.get(play.track).recording;
  }

  private int reason(Play play) {
    found.clear();
    return reasonAgain(play);
  }

  private int reasonAgain(Play play) {
    Integer known = frozen.containsKey(play.number) ? frozen.get(play.number)
        : found.get(play.number);
    if (known != null) {
      return known;
    }
    int reason = freshReason(play);
    found.put(play.number, reason);
    return reason;
  }

  private int freshReason(Play play) {
    if (play.seconds < 30) {
      return 1;
    }
    if (!allowed(play.track, lands.get(play.listener), play.minute)) {
      return 2;
    }
    if (down.containsKey(play.track) && down.get(play.track) <= play.minute) {
      return 3;
    }
    if (flags.get(play.listener)) {
      return 4;
    }
    int earlier = 0;
    for (Play other : plays) {
      if (other.listener == play.listener && recordingOf(other) == recordingOf(play)
          && other.minute / 1440 == play.minute / 1440 && other.isBefore(play)
          && reasonAgain(other) == 0) {
        earlier++;
      }
    }
    return earlier >= 5 ? 5 : 0;
  }

  private List<Play> counting() {
    found.clear();
    return plays.stream().filter(p -> reasonAgain(p) == 0).toList();
  }

  private List<Play> countingNow() {
    return counting().stream().filter(p -> p.minute / 14400 == now / 14400).toList();
  }

  private long[] byRecording(List<Play> some) {
    long[] many = new long[10];
    for (Play play : some) {
      many[recordingOf(play)]++;
    }
    return many;
  }

  private static long fee(int plan) {
    return List.of(200L, 1000L, 500L).get(plan);
  }

  private void close(int by) {
    List<Play> count = countingNow();
    for (Play play : plays) {
      frozen.put(play.number, reason(play));
    }
    long[] get = new long[10];
    for (int land = 0; land < 4; land++) {
      int here = land;
      List<Play> ofLand = count.stream().filter(p -> lands.get(p.listener) == here).toList();
      long pool = by == 0 ? poolOf(here) : 0;
      carry[land] = split(get, carry[land] + pool, byRecording(ofLand));
    }
    for (int who = 0; who < lands.size(); who++) {
      int l = who;
      house += fee(plans.get(l)) * 3 / 10;
      paidBy.set(l, paidBy.get(l) + (int) fee(plans.get(l)));
      if (by == 1) {
        List<Play> own = count.stream().filter(p -> p.listener == l).toList();
        carry[lands.get(l)] += split(get, fee(plans.get(l)) * 7 / 10, byRecording(own));
      }
    }
    for (int r = 0; r < 10; r++) {
      got[r] += get[r];
      held[r] += get[r];
      if (sum(claims[r]) <= 100) {
        box += held[r];
        for (int p = 0; p < 5; p++) {
          due[p] += held[r] * claims[r][p] / 100;
          box -= held[r] * claims[r][p] / 100;
        }
        held[r] = 0;
      }
    }
    for (int p = 0; p < 5; p++) {
      while (due[p] > 0 && advances[p] > 0) {
        due[p]--;
        advances[p]--;
        recouped[p]++;
      }
      paid[p] += due[p] >= 500 ? due[p] : 0;
      due[p] = due[p] >= 500 ? 0 : due[p];
    }
  }

  private long poolOf(int land) {
    long pool = 0;
    for (int l = 0; l < lands.size(); l++) {
      pool += lands.get(l) == land ? fee(plans.get(l)) * 7 / 10 : 0;
    }
    return pool;
  }

  private static long split(long[] get, long amount, long[] weights) {
    long all = sum(weights);
    if (all == 0) {
      return amount;
    }
    long left = amount;
    List<Integer> order = new ArrayList<>();
    for (int r = 0; r < 10; r++) {
      get[r] += amount * weights[r] / all;
      left -= amount * weights[r] / all;
      order.add(r);
    }
    order.sort((a, b) -> Long.compare(amount * weights[b] % all, amount * weights[a] % all));
    for (int i = 0; i < left; i++) {
      get[order.get(i)]++;
    }
    return 0;
  }

  private static long sum(long[] row) {
    long sum = 0;
    for (long value : row) {
      sum += value;
    }
    return sum;
  }

  public int ofTrack(int track, int what) {
    index(in(track, 0, tracks.size() - 1));
    argument(in(what, 0, 3));
    int set = 0;
    for (int land = 0; land < 4; land++) {
      set += allowed(track, land, now) ? Math.pow(2, land) : 0;
    }
    return new int[] {tracks.get(track).recording, down.getOrDefault(track, -1), set,
        (int) counting().stream().filter(p -> p.track == track).count()}[what];
  }

  public int ofListener(int listener, int what) {
    index(in(listener, 0, lands.size() - 1));
    argument(in(what, 0, 7));
    return new int[] {lands.get(listener), plans.get(listener), flags.get(listener) ? 1 : 0,
        phones.get(listener).size(),
        (int) plays.stream().filter(p -> p.listener == listener).count(),
        (int) counting().stream().filter(p -> p.listener == listener).count(),
        (int) countingNow().stream().filter(p -> p.listener == listener).count(),
        paidBy.get(listener)}[what];
  }

  public int ofPlay(int play, int what) {
    index(in(play, 0, plays.size() - 1));
    argument(in(what, 0, 5));
    Play p = plays.get(play);
    return new int[] {p.listener, p.track, p.minute, p.seconds, reason(p),
        p.minute / 14400 < now / 14400 ? 1 : 0}[what];
  }

  public int ofParty(int party, int what) {
    index(in(party, 0, 4));
    argument(in(what, 0, 3));
    return (int) new long[] {due[party], paid[party], advances[party], recouped[party]}[what];
  }

  public int ofRecording(int recording, int what) {
    index(in(recording, 0, 9));
    argument(in(what, 0, 6));
    long all = sum(claims[recording]);
    return (int) new long[] {all, all > 100 ? 1 : 0, held[recording], got[recording],
        tracks.stream().filter(t -> t.recording == recording).count(),
        byRecording(counting())[recording], byRecording(countingNow())[recording]}[what];
  }

  public int many(int what) {
    argument(in(what, 0, 17));
    return (int) new long[] {now, now / 14400, tracks.size(), windows.size(), lands.size(),
        plays.size(), counting().size(), rule, house, box, sum(held), sum(due), sum(paid),
        sum(recouped), carry[0], carry[1], carry[2], carry[3]}[what];
  }

  public int reasons(int reason) {
    index(in(reason, 0, 5));
    return (int) plays.stream().filter(p -> reason(p) == reason).count();
  }

  public double meanSeconds() {
    return counting().stream().mapToInt(p -> p.seconds).average().orElse(0);
  }

  public int chart(int land, int k) {
    index(in(land, 0, 3));
    argument(k >= 0);
    int[] points = new int[10];
    for (Play play : countingNow()) {
      if (lands.get(play.listener) == land) {
        points[recordingOf(play)] += plans.get(play.listener) == 0 ? 1 : 2;
      }
    }
    List<Integer> order = new ArrayList<>();
    for (int r = 0; r < 10; r++) {
      if (points[r] > 0) {
        order.add(r);
      }
    }
    order.sort((a, b) -> points[b] - points[a]);
    return k < order.size() ? order.get(k) : -1;
  }

  public int alike(int one, int other) {
    index(in(one, 0, 9) && in(other, 0, 9));
    argument(one != other);
    int sum = 0;
    for (int l = 0; l < lands.size(); l++) {
      sum += heard(l, one) && heard(l, other) ? 1 : 0;
    }
    return sum;
  }

  private boolean heard(int listener, int recording) {
    return counting().stream()
        .anyMatch(p -> p.listener == listener && recordingOf(p) == recording);
  }

  public int next(int listener) {
    index(in(listener, 0, lands.size() - 1));
    int best = -1;
    long most = -1;
    for (int r = 0; r < 10; r++) {
      if (heard(listener, r) || !hearable(r, lands.get(listener))) {
        continue;
      }
      long sum = 0;
      for (int other = 0; other < 10; other++) {
        sum += other != r && heard(listener, other) ? alike(r, other) : 0;
      }
      long worth = sum * 1000 + byRecording(counting())[r];
      if (worth > most) {
        best = r;
        most = worth;
      }
    }
    return best;
  }

  private boolean hearable(int recording, int land) {
    for (int t = 0; t < tracks.size(); t++) {
      if (tracks.get(t).recording == recording && allowed(t, land, now) && !down.containsKey(t)) {
        return true;
      }
    }
    return false;
  }

  public int wouldGet(int recording, int by) {
    index(in(recording, 0, 9));
    argument(in(by, 0, 1));
    PlainHouse trial = copy();
    trial.close(by);
    return (int) (trial.got[recording] - got[recording]);
  }

  public int wouldPay(int party, int by) {
    index(in(party, 0, 4));
    argument(in(by, 0, 1));
    PlainHouse trial = copy();
    trial.close(by);
    return (int) (trial.paid[party] - paid[party]);
  }

  public long digest() {
    List<Integer> values = new ArrayList<>();
    for (int what = 0; what <= 17; what++) {
      values.add(many(what));
    }
    for (int reason = 0; reason <= 5; reason++) {
      values.add(reasons(reason));
    }
    for (int track = 0; track < tracks.size(); track++) {
      for (int what = 0; what <= 3; what++) {
        values.add(ofTrack(track, what));
      }
    }
    for (int listener = 0; listener < lands.size(); listener++) {
      for (int what = 0; what <= 7; what++) {
        values.add(ofListener(listener, what));
      }
      values.add(next(listener));
    }
    for (int party = 0; party < 5; party++) {
      for (int what = 0; what <= 3; what++) {
        values.add(ofParty(party, what));
      }
      values.add(wouldPay(party, 0));
      values.add(wouldPay(party, 1));
    }
    for (int recording = 0; recording < 10; recording++) {
      for (int what = 0; what <= 6; what++) {
        values.add(ofRecording(recording, what));
      }
      values.add(wouldGet(recording, 0));
      values.add(wouldGet(recording, 1));
    }
    for (int land = 0; land < 4; land++) {
      values.add(chart(land, 0));
      values.add(chart(land, 1));
    }
    values.add(alike(0, 1));
    for (int play = 0; play < plays.size(); play++) {
      values.add(ofPlay(play, 4));
    }
    long d = 9106;
    for (int value : values) {
      d = d * 31 + value;
    }
    return d;
  }
}
