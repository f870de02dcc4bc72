import java.util.Arrays;

/** Songs by the stream, and who is paid for them. */
public final class PlayPool {
  private static final int NONE = -1;

  private static final int RECORDINGS = 10;
  private static final int PARTIES = 5;
  private static final int LANDS = 4;
  private static final int PLANS = 3;
  private static final int RULES = 2;
  private static final int REASONS = 6;

  private static final int MOST_TRACKS = 14;
  private static final int MOST_WINDOWS = 30;
  private static final int MOST_LISTENERS = 8;
  private static final int MOST_PLAYS = 130;
  private static final int MOST_KEPT = 3;

  private static final int LAST_MINUTE = 99999;
  private static final int LONGEST_PASS = 20000;
  private static final int MINUTES_OF_DAY = 1440;
  private static final int MINUTES_OF_MONTH = 10 * MINUTES_OF_DAY;

  private static final int HIGHEST_CLAIM = 100;
  private static final int HIGHEST_ADVANCE = 99999;
  private static final int LEAST_PAID = 500;
  private static final int MOST_SECONDS = 600;
  private static final int LEAST_SECONDS = 30;
  private static final int MOST_COUNTED_A_DAY = 5;

  private static final int PLAN_FREE = 0;
  private static final int PLAN_PAID = 1;

  private static final int BY_LAND = 0;

  private static final int COUNTS = 0;
  private static final int TOO_SHORT = 1;
  private static final int NOT_ALLOWED = 2;
  private static final int WAS_DOWN = 3;
  private static final int BY_FLAGGED = 4;
  private static final int TOO_OFTEN = 5;

  // The last number that may stand for WHAT is asked, call by call.
  private static final int LAST_OF_TRACK = 3;
  private static final int LAST_OF_LISTENER = 7;
  private static final int LAST_OF_PARTY = 3;
  private static final int LAST_OF_RECORDING = 6;
  private static final int LAST_OF_MANY = 17;
  private static final int FIRST_CARRY_OF_MANY = 14;
  private static final int LAST_OF_CHART_IN_DIGEST = 1;
  private static final long DIGEST_START = 9106;
  private static final long DIGEST_FACTOR = 31;

  private final Catalogue catalogue = new Catalogue();
  private final Rights rights = new Rights();
  private final Audience audience = new Audience();
  private final PlayLog log = new PlayLog();
  private final Counts counts = new Counts();
  private final Books books = new Books();
  // Two, so that digest() closes once by each rule and reads the rest from here.
  private final Books trialByLand = new Books();
  private final Books trialByListener = new Books();
  private final int[] points = new int[RECORDINGS];
  private int now = 0;
  private int ruleNow = BY_LAND;

  public PlayPool() {
  }

  // ---- recordings and rights

  public int track(int recording) throws IndexOutOfBoundsException, IllegalStateException {
    needRecording(recording);
    if (catalogue.trackCount >= MOST_TRACKS) {
      throw new IllegalStateException("no more TRACKS");
    }
    return catalogue.addTrack(recording);
  }

  public int window(int track, int land, int from, int to)
      throws IndexOutOfBoundsException, IllegalArgumentException, IllegalStateException {
    needTrack(track);
    needLand(land);
    if (from < 0 || from > LAST_MINUTE) {
      throw new IllegalArgumentException("no such minute to start from");
    }
    if (to < from || to > LAST_MINUTE) {
      throw new IllegalArgumentException("no such minute to end with");
    }
    if (catalogue.windowCount >= MOST_WINDOWS) {
      throw new IllegalStateException("no more WINDOWS");
    }
    catalogue.addWindow(track, land, from, to);
    judgePlays();
    return catalogue.windowCount;
  }

  public int down(int track, boolean is) throws IndexOutOfBoundsException, IllegalStateException {
    needTrack(track);
    if (catalogue.isDown(track) == is) {
      throw new IllegalStateException("it is so already");
    }
    int before = catalogue.downFrom[track];
    catalogue.downFrom[track] = is ? now : NONE;
    judgePlays();
    return before;
  }

  public int claim(int recording, int party, int hundredths)
      throws IndexOutOfBoundsException, IllegalArgumentException {
    needRecording(recording);
    needParty(party);
    if (hundredths < 0 || hundredths > HIGHEST_CLAIM) {
      throw new IllegalArgumentException("no such CLAIM");
    }
    rights.claims[recording][party] = hundredths;
    return rights.claimsOf(recording);
  }

  public int advance(int party, int amount)
      throws IndexOutOfBoundsException, IllegalArgumentException {
    needParty(party);
    if (amount < 1 || amount > HIGHEST_ADVANCE) {
      throw new IllegalArgumentException("no such amount");
    }
    books.advances[party] += amount;
    return books.advances[party];
  }

  public int rule(int rule) throws IllegalArgumentException {
    needRule(rule);
    int before = ruleNow;
    ruleNow = rule;
    return before;
  }

  // ---- listeners and plays

  public int listener(int land, int plan)
      throws IndexOutOfBoundsException, IllegalArgumentException, IllegalStateException {
    needLand(land);
    needPlan(plan);
    if (audience.count >= MOST_LISTENERS) {
      throw new IllegalStateException("no more LISTENERS");
    }
    return audience.add(land, plan);
  }

  public int plan(int listener, int plan)
      throws IndexOutOfBoundsException, IllegalArgumentException {
    needListener(listener);
    needPlan(plan);
    int before = audience.planOf[listener];
    audience.planOf[listener] = plan;
    return before;
  }

  public boolean flag(int listener, boolean is) throws IndexOutOfBoundsException {
    needListener(listener);
    boolean before = audience.flagged[listener];
    audience.flagged[listener] = is;
    judgePlays();
    return before;
  }

  public int keep(int listener, int track)
      throws IndexOutOfBoundsException, IllegalStateException {
    needListener(listener);
    needTrack(track);
    if (audience.hasKept(listener, track)) {
      throw new IllegalStateException("it is KEPT");
    }
    if (!catalogue.isAllowed(track, audience.landOf[listener], now)) {
      throw new IllegalStateException("it is not ALLOWED there NOW");
    }
    if (catalogue.isDown(track)) {
      throw new IllegalStateException("it is DOWN");
    }
    return audience.putOnPhone(listener, track);
  }

  public int play(int listener, int track, int minute, int seconds)
      throws IndexOutOfBoundsException, IllegalArgumentException, IllegalStateException {
    needListener(listener);
    needTrack(track);
    if (minute < 0 || minute > now) {
      throw new IllegalArgumentException("no such minute yet");
    }
    if (seconds < 0 || seconds > MOST_SECONDS) {
      throw new IllegalArgumentException("no such SECONDS");
    }
    if (isClosed(minute)) {
      throw new IllegalStateException("its MONTH is CLOSED");
    }
    if (minute < now && !audience.hasKept(listener, track)) {
      throw new IllegalStateException("it is not KEPT");
    }
    if (log.count >= MOST_PLAYS) {
      throw new IllegalStateException("no more PLAYS");
    }
    int play = log.add(listener, track, minute, seconds);
    judgePlays();
    return log.reasonOf[play];
  }

  public int pass(int minutes) throws IllegalArgumentException, IllegalStateException {
    if (minutes < 1 || minutes > LONGEST_PASS) {
      throw new IllegalArgumentException("no such number of minutes");
    }
    if (now + minutes > LAST_MINUTE) {
      throw new IllegalStateException("NOW would be too late");
    }
    int then = now + minutes;
    int paid = 0;
    for (int month = monthOf(now); month < monthOf(then); month++) {
      paid += closeMonth();
      now = (month + 1) * MINUTES_OF_MONTH;
      judgePlays();
    }
    now = then;
    return paid;
  }

  // ---- what is asked

  public int ofTrack(int track, int what)
      throws IndexOutOfBoundsException, IllegalArgumentException {
    needTrack(track);
    switch (what) {
      case 0:
        return catalogue.recordingOf[track];
      case 1:
        return catalogue.downFrom[track];
      case 2:
        return catalogue.landsAllowing(track, now);
      case 3:
        return log.countedOfTrack(track);
      default:
        throw new IllegalArgumentException("no such question");
    }
  }

  public int ofListener(int listener, int what)
      throws IndexOutOfBoundsException, IllegalArgumentException {
    needListener(listener);
    switch (what) {
      case 0:
        return audience.landOf[listener];
      case 1:
        return audience.planOf[listener];
      case 2:
        return audience.flagged[listener] ? 1 : 0;
      case 3:
        return audience.keptCount[listener];
      case 4:
        return log.playsOfListener(listener);
      case 5:
        return sumOf(counts.ever[listener]);
      case 6:
        return sumOf(counts.inMonth[listener]);
      case 7:
        return audience.paidEver[listener];
      default:
        throw new IllegalArgumentException("no such question");
    }
  }

  public int ofPlay(int play, int what)
      throws IndexOutOfBoundsException, IllegalArgumentException {
    if (play < 0 || play >= log.count) {
      throw new IndexOutOfBoundsException("no such PLAY");
    }
    switch (what) {
      case 0:
        return log.listenerOf[play];
      case 1:
        return log.trackOf[play];
      case 2:
        return log.minuteOf[play];
      case 3:
        return log.secondsOf[play];
      case 4:
        return log.reasonOf[play];
      case 5:
        return isClosed(log.minuteOf[play]) ? 1 : 0;
      default:
        throw new IllegalArgumentException("no such question");
    }
  }

  public int ofParty(int party, int what)
      throws IndexOutOfBoundsException, IllegalArgumentException {
    needParty(party);
    switch (what) {
      case 0:
        return books.due[party];
      case 1:
        return books.paid[party];
      case 2:
        return books.advances[party];
      case 3:
        return books.recouped[party];
      default:
        throw new IllegalArgumentException("no such question");
    }
  }

  public int ofRecording(int recording, int what)
      throws IndexOutOfBoundsException, IllegalArgumentException {
    needRecording(recording);
    switch (what) {
      case 0:
        return rights.claimsOf(recording);
      case 1:
        return rights.isInConflict(recording) ? 1 : 0;
      case 2:
        return books.held[recording];
      case 3:
        return books.gotEver[recording];
      case 4:
        return catalogue.tracksOf(recording);
      case 5:
        return columnSum(counts.ever, recording);
      case 6:
        return columnSum(counts.inMonth, recording);
      default:
        throw new IllegalArgumentException("no such question");
    }
  }

  public int many(int what) throws IllegalArgumentException {
    if (what < 0 || what > LAST_OF_MANY) {
      throw new IllegalArgumentException("no such question");
    }
    if (what >= FIRST_CARRY_OF_MANY) {
      return books.carry[what - FIRST_CARRY_OF_MANY];
    }
    switch (what) {
      case 0:
        return now;
      case 1:
        return monthOf(now);
      case 2:
        return catalogue.trackCount;
      case 3:
        return catalogue.windowCount;
      case 4:
        return audience.count;
      case 5:
        return log.count;
      case 6:
        return log.countWithReason(COUNTS);
      case 7:
        return ruleNow;
      case 8:
        return books.house;
      case 9:
        return books.box;
      case 10:
        return sumOf(books.held);
      case 11:
        return sumOf(books.due);
      case 12:
        return sumOf(books.paid);
      default:
        return sumOf(books.recouped);
    }
  }

  public int reasons(int reason) throws IndexOutOfBoundsException {
    if (reason < 0 || reason >= REASONS) {
      throw new IndexOutOfBoundsException("no such REASON");
    }
    return log.countWithReason(reason);
  }

  public double meanSeconds() {
    int counted = log.countWithReason(COUNTS);
    return counted == 0 ? 0.0 : (double) log.countedSeconds() / counted;
  }

  public int chart(int land, int k) throws IndexOutOfBoundsException, IllegalArgumentException {
    needLand(land);
    if (k < 0) {
      throw new IllegalArgumentException("no such place");
    }
    return charted(land, k);
  }

  public int alike(int one, int other) throws IndexOutOfBoundsException, IllegalArgumentException {
    needRecording(one);
    needRecording(other);
    if (one == other) {
      throw new IllegalArgumentException("both are the same");
    }
    return counts.hearersOfBoth(one, other);
  }

  // ---- what would be (nothing is changed)

  public int next(int listener) throws IndexOutOfBoundsException {
    needListener(listener);
    return suggestion(listener);
  }

  public int wouldGet(int recording, int rule)
      throws IndexOutOfBoundsException, IllegalArgumentException {
    needRecording(recording);
    needRule(rule);
    tryClosing(rule);
    return gotInTrial(recording, rule);
  }

  public int wouldPay(int party, int rule)
      throws IndexOutOfBoundsException, IllegalArgumentException {
    needParty(party);
    needRule(rule);
    tryClosing(rule);
    return paidInTrial(party, rule);
  }

  public long digest() {
    for (int rule = 0; rule < RULES; rule++) {
      tryClosing(rule);
    }
    long d = digestOfTotals(DIGEST_START);
    d = digestOfTracks(d);
    d = digestOfListeners(d);
    d = digestOfParties(d);
    d = digestOfRecordings(d);
    d = digestOfCharts(d);
    d = digestStep(d, counts.hearersOfBoth(0, 1));
    return digestOfPlays(d);
  }

  // ---- what a call needs

  private static void needRecording(int recording) {
    if (recording < 0 || recording >= RECORDINGS) {
      throw new IndexOutOfBoundsException("no such RECORDING");
    }
  }

  private static void needParty(int party) {
    if (party < 0 || party >= PARTIES) {
      throw new IndexOutOfBoundsException("no such PARTY");
    }
  }

  private static void needLand(int land) {
    if (land < 0 || land >= LANDS) {
      throw new IndexOutOfBoundsException("no such LAND");
    }
  }

  private static void needPlan(int plan) {
    if (plan < 0 || plan >= PLANS) {
      throw new IllegalArgumentException("no such PLAN");
    }
  }

  private static void needRule(int rule) {
    if (rule < 0 || rule >= RULES) {
      throw new IllegalArgumentException("no such RULE");
    }
  }

  private void needTrack(int track) {
    if (track < 0 || track >= catalogue.trackCount) {
      throw new IndexOutOfBoundsException("no such TRACK");
    }
  }

  private void needListener(int listener) {
    if (listener < 0 || listener >= audience.count) {
      throw new IndexOutOfBoundsException("no such LISTENER");
    }
  }

  // ---- the calendar

  private static int dayOf(int minute) {
    return minute / MINUTES_OF_DAY;
  }

  private static int monthOf(int minute) {
    return minute / MINUTES_OF_MONTH;
  }

  private boolean isClosed(int minute) {
    return monthOf(minute) < monthOf(now);
  }

  // ---- which plays count

  // By minute, as whether a play counts hangs on the earlier ones of its day alone.
  private void judgePlays() {
    counts.clear();
    int day = NONE;
    for (int place = 0; place < log.count; place++) {
      int play = log.byMinute[place];
      int minute = log.minuteOf[play];
      boolean open = !isClosed(minute);
      if (day != dayOf(minute)) {
        day = dayOf(minute);
        counts.startDay();
      }
      if (open) {
        log.reasonOf[play] = judged(play);
      }
      if (log.reasonOf[play] == COUNTS) {
        counts.add(log.listenerOf[play], catalogue.recordingOf[log.trackOf[play]], open);
      }
    }
  }

  private int judged(int play) {
    int listener = log.listenerOf[play];
    int track = log.trackOf[play];
    int minute = log.minuteOf[play];
    if (log.secondsOf[play] < LEAST_SECONDS) {
      return TOO_SHORT;
    }
    if (!catalogue.isAllowed(track, audience.landOf[listener], minute)) {
      return NOT_ALLOWED;
    }
    if (catalogue.isDownIn(track, minute)) {
      return WAS_DOWN;
    }
    if (audience.flagged[listener]) {
      return BY_FLAGGED;
    }
    int earlier = counts.onDay[listener][catalogue.recordingOf[track]];
    return earlier >= MOST_COUNTED_A_DAY ? TOO_OFTEN : COUNTS;
  }

  // ---- closing a month, and trying it

  private int closeMonth() {
    int paidBefore = sumOf(books.paid);
    books.close(ruleNow, audience, counts, rights);
    audience.takeFees();
    return sumOf(books.paid) - paidBefore;
  }

  private Books trialBy(int rule) {
    return rule == BY_LAND ? trialByLand : trialByListener;
  }

  private void tryClosing(int rule) {
    Books trial = trialBy(rule);
    trial.takeOver(books);
    trial.close(rule, audience, counts, rights);
  }

  private int gotInTrial(int recording, int rule) {
    return trialBy(rule).gotEver[recording] - books.gotEver[recording];
  }

  private int paidInTrial(int party, int rule) {
    return trialBy(rule).paid[party] - books.paid[party];
  }

  // ---- charts and what to hear next

  private int charted(int land, int k) {
    countPoints(land);
    for (int recording = 0; recording < RECORDINGS; recording++) {
      if (points[recording] > 0 && placeOf(points, recording) == k) {
        return recording;
      }
    }
    return NONE;
  }

  private void countPoints(int land) {
    Arrays.fill(points, 0);
    for (int listener = 0; listener < audience.count; listener++) {
      if (audience.landOf[listener] == land) {
        int each = audience.planOf[listener] == PLAN_FREE ? 1 : 2;
        addTimes(points, counts.inMonth[listener], each);
      }
    }
  }

  private int suggestion(int listener) {
    int best = NONE;
    int bestAlike = 0;
    int bestPlays = 0;
    for (int recording = 0; recording < RECORDINGS; recording++) {
      if (isNewAndHearable(recording, listener)) {
        int alike = alikeToHeard(recording, listener);
        int plays = columnSum(counts.ever, recording);
        if (best == NONE || alike > bestAlike || (alike == bestAlike && plays > bestPlays)) {
          best = recording;
          bestAlike = alike;
          bestPlays = plays;
        }
      }
    }
    return best;
  }

  private boolean isNewAndHearable(int recording, int listener) {
    return counts.ever[listener][recording] == 0
        && catalogue.isHearable(recording, audience.landOf[listener], now);
  }

  private int alikeToHeard(int recording, int listener) {
    int sum = 0;
    for (int heard = 0; heard < RECORDINGS; heard++) {
      if (counts.ever[listener][heard] > 0) {
        sum += counts.hearersOfBoth(recording, heard);
      }
    }
    return sum;
  }

  // ---- the parts of the digest

  private static long digestStep(long d, long v) {
    return d * DIGEST_FACTOR + v;
  }

  private long digestOfTotals(long start) {
    long d = start;
    for (int what = 0; what <= LAST_OF_MANY; what++) {
      d = digestStep(d, many(what));
    }
    for (int reason = 0; reason < REASONS; reason++) {
      d = digestStep(d, log.countWithReason(reason));
    }
    return d;
  }

  private long digestOfTracks(long start) {
    long d = start;
    for (int track = 0; track < catalogue.trackCount; track++) {
      for (int what = 0; what <= LAST_OF_TRACK; what++) {
        d = digestStep(d, ofTrack(track, what));
      }
    }
    return d;
  }

  private long digestOfListeners(long start) {
    long d = start;
    for (int listener = 0; listener < audience.count; listener++) {
      for (int what = 0; what <= LAST_OF_LISTENER; what++) {
        d = digestStep(d, ofListener(listener, what));
      }
      d = digestStep(d, suggestion(listener));
    }
    return d;
  }

  private long digestOfParties(long start) {
    long d = start;
    for (int party = 0; party < PARTIES; party++) {
      for (int what = 0; what <= LAST_OF_PARTY; what++) {
        d = digestStep(d, ofParty(party, what));
      }
      for (int rule = 0; rule < RULES; rule++) {
        d = digestStep(d, paidInTrial(party, rule));
      }
    }
    return d;
  }

  private long digestOfRecordings(long start) {
    long d = start;
    for (int recording = 0; recording < RECORDINGS; recording++) {
      for (int what = 0; what <= LAST_OF_RECORDING; what++) {
        d = digestStep(d, ofRecording(recording, what));
      }
      for (int rule = 0; rule < RULES; rule++) {
        d = digestStep(d, gotInTrial(recording, rule));
      }
    }
    return d;
  }

  private long digestOfCharts(long start) {
    long d = start;
    for (int land = 0; land < LANDS; land++) {
      for (int k = 0; k <= LAST_OF_CHART_IN_DIGEST; k++) {
        d = digestStep(d, charted(land, k));
      }
    }
    return d;
  }

  private long digestOfPlays(long start) {
    long d = start;
    for (int play = 0; play < log.count; play++) {
      d = digestStep(d, log.reasonOf[play]);
    }
    return d;
  }

  // ---- rows of numbers

  private static int sumOf(int[] row) {
    int sum = 0;
    for (int value : row) {
      sum += value;
    }
    return sum;
  }

  private static int columnSum(int[][] rows, int column) {
    int sum = 0;
    for (int row = 0; row < rows.length; row++) {
      if (column >= 0 && column < rows[row].length) {
        sum += rows[row][column];
      }
    }
    return sum;
  }

  private static void addTimes(int[] to, int[] from, int times) {
    for (int i = 0; i < to.length && i < from.length; i++) {
      to[i] += from[i] * times;
    }
  }

  private static void copyAll(int[] from, int[] to) {
    System.arraycopy(from, 0, to, 0, Math.min(from.length, to.length));
  }

  private static void clearRows(int[][] rows) {
    for (int row = 0; row < rows.length; row++) {
      Arrays.fill(rows[row], 0);
    }
  }

  // Place 0 has the greatest; of several as great the first is ahead.
  private static int placeOf(int[] values, int which) {
    int ahead = 0;
    for (int i = 0; which >= 0 && which < values.length && i < values.length; i++) {
      if (values[i] > values[which] || (values[i] == values[which] && i < which)) {
        ahead++;
      }
    }
    return ahead;
  }

  /** The tracks and their windows. */
  private static final class Catalogue {
    private int trackCount = 0;
    private final int[] recordingOf = new int[MOST_TRACKS];
    private final int[] downFrom = new int[MOST_TRACKS];
    private int windowCount = 0;
    private final int[] windowTrack = new int[MOST_WINDOWS];
    private final int[] windowLand = new int[MOST_WINDOWS];
    private final int[] windowFrom = new int[MOST_WINDOWS];
    private final int[] windowTo = new int[MOST_WINDOWS];

    private int addTrack(int recording) {
      int track = trackCount;
      if (track < MOST_TRACKS) {
        recordingOf[track] = recording;
        downFrom[track] = NONE;
        trackCount++;
      }
      return track;
    }

    private void addWindow(int track, int land, int from, int to) {
      if (windowCount < MOST_WINDOWS) {
        windowTrack[windowCount] = track;
        windowLand[windowCount] = land;
        windowFrom[windowCount] = from;
        windowTo[windowCount] = to;
        windowCount++;
      }
    }

    private boolean isDown(int track) {
      return downFrom[track] != NONE;
    }

    private boolean isDownIn(int track, int minute) {
      return isDown(track) && downFrom[track] <= minute;
    }

    private boolean isAllowed(int track, int land, int minute) {
      for (int window = 0; window < windowCount; window++) {
        if (windowTrack[window] == track && windowLand[window] == land
            && windowFrom[window] <= minute && minute <= windowTo[window]) {
          return true;
        }
      }
      return false;
    }

    private int landsAllowing(int track, int minute) {
      int lands = 0;
      for (int land = 0; land < LANDS; land++) {
        if (isAllowed(track, land, minute)) {
          lands |= 1 << land;
        }
      }
      return lands;
    }

    private int tracksOf(int recording) {
      int sum = 0;
      for (int track = 0; track < trackCount; track++) {
        if (recordingOf[track] == recording) {
          sum++;
        }
      }
      return sum;
    }

    private boolean isHearable(int recording, int land, int minute) {
      for (int track = 0; track < trackCount; track++) {
        if (recordingOf[track] == recording && !isDown(track) && isAllowed(track, land, minute)) {
          return true;
        }
      }
      return false;
    }
  }

  /** Who claims how much of what. */
  private static final class Rights {
    private final int[][] claims = new int[RECORDINGS][PARTIES];

    private int claimsOf(int recording) {
      return sumOf(claims[recording]);
    }

    private boolean isInConflict(int recording) {
      return claimsOf(recording) > HIGHEST_CLAIM;
    }
  }

  /** The listeners and their phones. */
  private static final class Audience {
    private int count = 0;
    private final int[] landOf = new int[MOST_LISTENERS];
    private final int[] planOf = new int[MOST_LISTENERS];
    private final boolean[] flagged = new boolean[MOST_LISTENERS];
    private final int[] paidEver = new int[MOST_LISTENERS];
    private final int[] keptCount = new int[MOST_LISTENERS];
    // That which is on the phone for longest stands first.
    private final int[][] kept = new int[MOST_LISTENERS][MOST_KEPT];

    private int add(int land, int plan) {
      int listener = count;
      if (listener < MOST_LISTENERS) {
        landOf[listener] = land;
        planOf[listener] = plan;
        count++;
      }
      return listener;
    }

    private boolean hasKept(int listener, int track) {
      for (int i = 0; i < keptCount[listener]; i++) {
        if (kept[listener][i] == track) {
          return true;
        }
      }
      return false;
    }

    private int putOnPhone(int listener, int track) {
      int[] phone = kept[listener];
      int gone = NONE;
      if (keptCount[listener] >= MOST_KEPT) {
        gone = phone[0];
        System.arraycopy(phone, 1, phone, 0, MOST_KEPT - 1);
        keptCount[listener] = MOST_KEPT - 1;
      }
      phone[keptCount[listener]] = track;
      keptCount[listener]++;
      return gone;
    }

    private int feeOf(int listener) {
      switch (planOf[listener]) {
        case PLAN_FREE:
          return 200;
        case PLAN_PAID:
          return 1000;
        default:
          return 500;
      }
    }

    private int poolPartOf(int listener) {
      return feeOf(listener) * 7 / 10;
    }

    private void takeFees() {
      for (int listener = 0; listener < count; listener++) {
        paidEver[listener] += feeOf(listener);
      }
    }
  }

  /** The plays, by number and by minute. */
  private static final class PlayLog {
    private int count = 0;
    private final int[] listenerOf = new int[MOST_PLAYS];
    private final int[] trackOf = new int[MOST_PLAYS];
    private final int[] minuteOf = new int[MOST_PLAYS];
    private final int[] secondsOf = new int[MOST_PLAYS];
    private final int[] reasonOf = new int[MOST_PLAYS];
    private final int[] byMinute = new int[MOST_PLAYS];

    private int add(int listener, int track, int minute, int seconds) {
      int play = count;
      if (play < MOST_PLAYS) {
        listenerOf[play] = listener;
        trackOf[play] = track;
        minuteOf[play] = minute;
        secondsOf[play] = seconds;
        putInOrder(play);
        count++;
      }
      return play;
    }

    // Behind those of its own minute, as they have smaller numbers.
    private void putInOrder(int play) {
      int place = play;
      while (place > 0 && minuteOf[byMinute[place - 1]] > minuteOf[play]) {
        byMinute[place] = byMinute[place - 1];
        place--;
      }
      byMinute[place] = play;
    }

    private int countWithReason(int reason) {
      int sum = 0;
      for (int play = 0; play < count; play++) {
        if (reasonOf[play] == reason) {
          sum++;
        }
      }
      return sum;
    }

    private int countedOfTrack(int track) {
      int sum = 0;
      for (int play = 0; play < count; play++) {
        if (trackOf[play] == track && reasonOf[play] == COUNTS) {
          sum++;
        }
      }
      return sum;
    }

    private int playsOfListener(int listener) {
      int sum = 0;
      for (int play = 0; play < count; play++) {
        if (listenerOf[play] == listener) {
          sum++;
        }
      }
      return sum;
    }

    private int countedSeconds() {
      int sum = 0;
      for (int play = 0; play < count; play++) {
        if (reasonOf[play] == COUNTS) {
          sum += secondsOf[play];
        }
      }
      return sum;
    }
  }

  /** How many plays count, by listener and recording. */
  private static final class Counts {
    private final int[][] ever = new int[MOST_LISTENERS][RECORDINGS];
    private final int[][] inMonth = new int[MOST_LISTENERS][RECORDINGS];
    private final int[][] onDay = new int[MOST_LISTENERS][RECORDINGS];

    // Leaves onDay, which startDay() clears ahead of each DAY.
    private void clear() {
      clearRows(ever);
      clearRows(inMonth);
    }

    private void startDay() {
      clearRows(onDay);
    }

    private void add(int listener, int recording, boolean open) {
      ever[listener][recording]++;
      onDay[listener][recording]++;
      if (open) {
        inMonth[listener][recording]++;
      }
    }

    private int hearersOfBoth(int one, int other) {
      int sum = 0;
      for (int listener = 0; listener < MOST_LISTENERS; listener++) {
        if (ever[listener][one] > 0 && ever[listener][other] > 0) {
          sum++;
        }
      }
      return sum;
    }
  }

  /** Where the money is. */
  private static final class Books {
    private int house = 0;
    private int box = 0;
    private final int[] carry = new int[LANDS];
    private final int[] gotEver = new int[RECORDINGS];
    private final int[] held = new int[RECORDINGS];
    private final int[] due = new int[PARTIES];
    private final int[] paid = new int[PARTIES];
    private final int[] advances = new int[PARTIES];
    private final int[] recouped = new int[PARTIES];
    // These three are of one closing alone; they stand here so as to be made once.
    private final int[] got = new int[RECORDINGS];
    private final int[] weights = new int[RECORDINGS];
    private final int[] rests = new int[RECORDINGS];

    private void takeOver(Books from) {
      house = from.house;
      box = from.box;
      copyAll(from.carry, carry);
      copyAll(from.gotEver, gotEver);
      copyAll(from.held, held);
      copyAll(from.due, due);
      copyAll(from.paid, paid);
      copyAll(from.advances, advances);
      copyAll(from.recouped, recouped);
    }

    private void close(int rule, Audience audience, Counts counts, Rights rights) {
      Arrays.fill(got, 0);
      takeHouseParts(audience);
      for (int land = 0; land < LANDS; land++) {
        weighLand(land, audience, counts);
        if (rule == BY_LAND) {
          carry[land] = split(carry[land] + poolOf(land, audience), weights);
        } else {
          carry[land] = split(carry[land], weights);
          splitByListener(land, audience, counts);
        }
      }
      for (int recording = 0; recording < RECORDINGS; recording++) {
        gotEver[recording] += got[recording];
        share(recording, rights);
      }
      for (int party = 0; party < PARTIES; party++) {
        recoup(party);
        payOut(party);
      }
    }

    private void takeHouseParts(Audience audience) {
      for (int listener = 0; listener < audience.count; listener++) {
        house += audience.feeOf(listener) - audience.poolPartOf(listener);
      }
    }

    private void weighLand(int land, Audience audience, Counts counts) {
      Arrays.fill(weights, 0);
      for (int listener = 0; listener < audience.count; listener++) {
        if (audience.landOf[listener] == land) {
          addTimes(weights, counts.inMonth[listener], 1);
        }
      }
    }

    private int poolOf(int land, Audience audience) {
      int pool = 0;
      for (int listener = 0; listener < audience.count; listener++) {
        if (audience.landOf[listener] == land) {
          pool += audience.poolPartOf(listener);
        }
      }
      return pool;
    }

    private void splitByListener(int land, Audience audience, Counts counts) {
      for (int listener = 0; listener < audience.count; listener++) {
        if (audience.landOf[listener] == land) {
          carry[land] += split(audience.poolPartOf(listener), counts.inMonth[listener]);
        }
      }
    }

    // Answers what could not be split.
    private int split(int amount, int[] parts) {
      int all = sumOf(parts);
      if (all <= 0) {
        return amount;
      }
      int left = amount;
      for (int recording = 0; recording < RECORDINGS; recording++) {
        int times = amount * parts[recording];
        got[recording] += times / all;
        rests[recording] = times % all;
        left -= times / all;
      }
      for (int recording = 0; recording < RECORDINGS; recording++) {
        if (placeOf(rests, recording) < left) {
          got[recording]++;
        }
      }
      return 0;
    }

    private void share(int recording, Rights rights) {
      int amount = got[recording] + held[recording];
      if (rights.isInConflict(recording)) {
        held[recording] = amount;
        return;
      }
      held[recording] = 0;
      int rest = amount;
      for (int party = 0; party < PARTIES; party++) {
        int part = amount * rights.claims[recording][party] / 100;
        due[party] += part;
        rest -= part;
      }
      box += rest;
    }

    private void recoup(int party) {
      int taken = Math.min(due[party], advances[party]);
      due[party] -= taken;
      advances[party] -= taken;
      recouped[party] += taken;
    }

    private void payOut(int party) {
      if (due[party] >= LEAST_PAID) {
        paid[party] += due[party];
        due[party] = 0;
      }
    }
  }
}
