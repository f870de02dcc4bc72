/** The boundary cases of "Money". */
public final class MoneyEdgesTest {
  private static final int MONTH = 14400;
  private static final Checks is = new Checks();

  public static void main(String[] args) {
    splits();
    rules();
    carries();
    heldAndBox();
    dueAndPaid();
    is.end("the edges of the money");
  }

  private static void splits() {
    splitToOneAlone();
    splitWithNothingLeft();
    splitWithOneLeft();
    splitWithAllButOneLeft();
    splitByTheGreatestRest();
    splitWithoutARest();
    splitAmongTen();
    splitOfTheMostMoney();
  }

  private static void rules() {
    poolAndCarryAreSplitOnce();
    poolsOfOneLandAreSplitOnce();
    ownPartsAreSplitApart();
    carryIsSplitByTheWholeLand();
    landsAreApart();
    monthsAreApart();
    playsThatDoNotCountHaveNoWeight();
  }

  private static void carries() {
    carryOfALandWithoutPlays();
    carryOfAListenerWithoutPlays();
    carryStaysUntilThereArePlays();
    carryOfALandWithoutListeners();
    carryOfEachLand();
  }

  private static void heldAndBox() {
    heldFrom101On();
    heldIsSharedWithWhatIsGot();
    heldThroughManyMonths();
    heldByTheClaimsOfTheEnd();
    heldOfOneRecordingAlone();
    heldOfEachRecording();
    heldGoesIntoTheBoxWithoutClaims();
    partsAreRoundedDown();
    boxWithoutClaims();
    lastPartyHasAll();
  }

  private static void dueAndPaid() {
    advanceBesideWhatIsDue();
    paidFrom500On();
    dueStaysBelow500();
    dueOfEachParty();
    advanceTakesWhatWasDueBefore();
    advanceOfTheEndOfAMonth();
    partiesAreApart();
    noMoneyIsLost();
  }

  private static void isGot(PlayPool x, int... due) {
    for (int recording = 0; recording < due.length; recording++) {
      is.eq("got by RECORDING " + recording, x.ofRecording(recording, 3), due[recording]);
    }
  }

  // One LISTENER, with that many PLAYS of each RECORDING from 0 on.
  private static PlayPool heard(int plan, int... plays) {
    PlayPool x = Houses.songs(plays.length);
    x.listener(0, plan);
    for (int track = 0; track < plays.length; track++) {
      Houses.plays(x, 0, track, 0, plays[track]);
    }
    return x;
  }

  private static PlayPool closed(PlayPool x) {
    x.pass(MONTH);
    return x;
  }

  // ---- to SPLIT

  private static void splitToOneAlone() {
    isGot(closed(heard(0, 0, 1, 0)), 0, 140, 0);
    isGot(closed(heard(0, 0, 5, 0)), 0, 140, 0);
    isGot(closed(heard(1, 0, 0, 0, 0, 0, 0, 0, 0, 0, 1)), 0, 0, 0, 0, 0, 0, 0, 0, 0, 700);
  }

  private static void splitWithNothingLeft() {
    isGot(closed(heard(0, 1, 1)), 70, 70);
    isGot(closed(heard(2, 3, 2)), 210, 140);
    isGot(closed(heard(1, 1, 1, 1, 1, 1, 1, 1)), 100, 100, 100, 100, 100, 100, 100);
  }

  // 700 by 3 is 233, and 1 is left.
  private static void splitWithOneLeft() {
    isGot(closed(heard(1, 1, 1, 1)), 234, 233, 233);
    isGot(closed(heard(1, 0, 0, 1, 1, 1)), 0, 0, 234, 233, 233);
  }

  // 140 by 3 is 46, and 2 are left; 350 by 9 is 38, and 8 are left.
  private static void splitWithAllButOneLeft() {
    isGot(closed(heard(0, 1, 1, 1)), 47, 47, 46);
    isGot(closed(heard(2, 1, 1, 1, 1, 1, 1, 1, 1, 1)), 39, 39, 39, 39, 39, 39, 39, 39, 38);
  }

  // 140 by 2 and 1: 93 and 46, the rests are 1 and 2. By 4, 3 and 4: 50, 38 and 50, and 10, 2, 10.
  private static void splitByTheGreatestRest() {
    isGot(closed(heard(0, 2, 1)), 93, 47);
    isGot(closed(heard(0, 1, 2)), 47, 93);
    isGot(closed(heard(0, 4, 3, 4)), 51, 38, 51);
    // 350 by 1, 5 and 5 (of 11): 31, 159 and 159, and the rests are 9, 1 and 1.
    isGot(closed(heard(2, 5, 5, 1)), 159, 159, 32);
  }

  // 350 by 2, 1 and 1: 175, 87 and 87, and the rests are 0, 2 and 2.
  private static void splitWithoutARest() {
    isGot(closed(heard(2, 2, 1, 1)), 175, 88, 87);
    isGot(closed(heard(2, 1, 1, 2)), 88, 87, 175);
    isGot(closed(heard(2, 0, 1, 0, 2, 0, 1)), 0, 88, 0, 175, 0, 87);
  }

  private static void splitAmongTen() {
    isGot(closed(heard(0, 1, 1, 1, 1, 1, 1, 1, 1, 1, 1)), 14, 14, 14, 14, 14, 14, 14, 14, 14, 14);
    // 140 by 11 is 12, by 2 it is 25; the rests are 8 each, and 5.
    isGot(closed(heard(0, 2, 1, 1, 1, 1, 1, 1, 1, 1, 1)), 25, 13, 13, 13, 13, 13, 13, 13, 12, 12);
  }

  // Eight of 700 in seven MONTHS: 39200 by 120 and 10: 36184 and 3015, the rests are 80 and 50.
  private static void splitOfTheMostMoney() {
    PlayPool x = Houses.songs(10);
    for (int listener = 0; listener < 8; listener++) {
      x.listener(0, 1);
    }
    Houses.passTo(x, 6 * MONTH);
    is.eq("the CARRY of six MONTHS", x.many(14), 33600);
    for (int day = 0; day < 3; day++) {
      for (int listener = 0; listener < 8; listener++) {
        Houses.plays(x, listener, 0, x.many(0), 5);
      }
      x.pass(1440);
    }
    Houses.plays(x, 0, 9, x.many(0), 5);
    Houses.plays(x, 7, 9, x.many(0), 5);
    x.claim(0, 4, 100);
    x.claim(9, 0, 99);
    is.eq("130 COUNT", x.many(6), 130);
    is.eq("the most by LAND", x.wouldGet(0, 0), 36185);
    is.eq("the least by LAND", x.wouldGet(9, 0), 3015);
    is.eq("PAID by LAND", x.wouldPay(4, 0), 36185);
    is.eq("PAID by LAND", x.wouldPay(0, 0), 2984);
    // By LISTENER: 33600 is SPLIT as 31015 and 2585; 6 times 700, and twice 525 and 175.
    is.eq("the most by LISTENER", x.wouldGet(0, 1), 31015 + 4200 + 1050);
    is.eq("the least by LISTENER", x.wouldGet(9, 1), 2585 + 350);
  }

  // ---- the RULES

  private static void poolAndCarryAreSplitOnce() {
    for (int rule = 0; rule <= 1; rule++) {
      PlayPool x = Houses.songs(3);
      x.listener(0, 0);
      x.rule(rule);
      x.pass(MONTH);
      for (int track = 0; track < 3; track++) {
        x.play(0, track, MONTH, 60);
      }
      is.eq("would get", x.wouldGet(1, 0), 93);
      is.eq("would get", x.wouldGet(1, 1), 94);
      x.pass(MONTH);
      if (rule == 0) {
        isGot(x, 94, 93, 93);
      } else {
        isGot(x, 94, 94, 92);
      }
      is.eq("no CARRY any more", x.many(14), 0);
    }
  }

  private static void poolsOfOneLandAreSplitOnce() {
    PlayPool x = Houses.songs(3);
    x.listener(0, 0);
    x.listener(0, 0);
    for (int track = 0; track < 3; track++) {
      x.play(0, track, 0, 60);
    }
    x.pass(MONTH);
    isGot(x, 94, 93, 93);
  }

  private static void ownPartsAreSplitApart() {
    PlayPool x = Houses.songs(3);
    x.rule(1);
    for (int listener = 0; listener < 2; listener++) {
      x.listener(0, 0);
      for (int track = 0; track < 3; track++) {
        x.play(listener, track, 0, 60);
      }
    }
    x.pass(MONTH);
    isGot(x, 94, 94, 92);
  }

  private static void carryIsSplitByTheWholeLand() {
    PlayPool x = Houses.songs(2);
    x.listener(0, 0);
    x.listener(0, 0);
    x.pass(MONTH);
    x.rule(1);
    Houses.plays(x, 0, 0, MONTH, 3);
    Houses.plays(x, 1, 1, MONTH, 1);
    x.pass(MONTH);
    // 280 by 3 and 1, and then 140 each.
    isGot(x, 210 + 140, 70 + 140);
  }

  private static void landsAreApart() {
    for (int rule = 0; rule <= 1; rule++) {
      PlayPool x = new PlayPool();
      x.rule(rule);
      for (int land = 0; land <= 3; land++) {
        x.track(land);
        x.window(land, land, 0, 0);
        x.listener(land, land % 3);
        Houses.plays(x, land, land, 0, land + 1);
      }
      x.pass(MONTH);
      isGot(x, 140, 700, 350, 140, 0);
    }
  }

  private static void monthsAreApart() {
    for (int rule = 0; rule <= 1; rule++) {
      PlayPool x = Houses.songs(2);
      x.rule(rule);
      x.listener(0, 0);
      x.pass(MONTH - 1);
      Houses.plays(x, 0, 0, MONTH - 1, 5);
      x.pass(1);
      isGot(x, 140, 0);
      Houses.plays(x, 0, 1, MONTH, 1);
      x.pass(MONTH);
      isGot(x, 140, 140);
    }
  }

  private static void playsThatDoNotCountHaveNoWeight() {
    for (int rule = 0; rule <= 1; rule++) {
      PlayPool x = Houses.songs(3);
      x.rule(rule);
      x.listener(0, 0);
      x.listener(0, 0);
      x.flag(1, true);
      Houses.plays(x, 0, 0, 0, 9);
      Houses.plays(x, 0, 1, 0, 2);
      Houses.plays(x, 1, 2, 0, 5);
      x.play(0, 2, 0, 29);
      is.eq("would get", x.wouldGet(0, rule), rule == 0 ? 200 : 100);
      x.pass(MONTH);
      isGot(x, rule == 0 ? 200 : 100, rule == 0 ? 80 : 40, 0);
      is.eq("the CARRY", x.many(14), rule == 0 ? 0 : 140);
    }
  }

  // ---- the CARRY

  private static void carryOfALandWithoutPlays() {
    for (int rule = 0; rule <= 1; rule++) {
      PlayPool x = Houses.noWindow(1);
      x.rule(rule);
      x.listener(0, 0);
      x.play(0, 0, 0, 60);
      x.pass(MONTH);
      is.eq("no PLAY COUNTS", x.many(14), 840);
      x.pass(MONTH);
      is.eq("it stays, and more goes in", x.many(14), 1680);
      is.eq("nothing is got", x.ofRecording(0, 3), 0);
    }
  }

  private static void carryOfAListenerWithoutPlays() {
    PlayPool x = Houses.songs(1);
    x.rule(1);
    x.listener(0, 1);
    x.listener(0, 0);
    x.play(1, 0, 0, 60);
    x.pass(MONTH);
    is.eq("of the one with PLAYS", x.ofRecording(0, 3), 140);
    is.eq("of the one without", x.many(14), 700);
    x.play(1, 0, MONTH, 60);
    is.eq("what was in it ahead of the end", x.wouldGet(0, 1), 840);
    x.pass(MONTH);
    is.eq("that alone is SPLIT", x.ofRecording(0, 3), 980);
    is.eq("what went in since", x.many(14), 700);
    x.play(0, 0, 2 * MONTH, 60);
    x.rule(0);
    x.pass(MONTH);
    is.eq("all of it", x.ofRecording(0, 3), 980 + 700 + 840);
    is.eq("nothing stays", x.many(14), 0);
  }

  private static void carryStaysUntilThereArePlays() {
    PlayPool x = Houses.songs(1);
    x.listener(0, 0);
    for (int month = 1; month <= 5; month++) {
      x.pass(MONTH);
      is.eq("CARRY", x.many(14), 140 * month);
    }
    x.play(0, 0, 5 * MONTH, 60);
    x.pass(MONTH);
    is.eq("six MONTHS", x.ofRecording(0, 3), 840);
    is.eq("no CARRY", x.many(14), 0);
  }

  private static void carryOfALandWithoutListeners() {
    PlayPool x = Houses.songs(1);
    x.window(0, 1, 0, 99999);
    x.listener(1, 1);
    x.pass(MONTH);
    is.eq("CARRY of LAND 0", x.many(14), 0);
    is.eq("CARRY of LAND 1", x.many(15), 700);
    x.listener(0, 0);
    x.play(1, 0, MONTH, 60);
    x.pass(MONTH);
    is.eq("another LAND's CARRY is not SPLIT", x.ofRecording(0, 3), 140);
    is.eq("CARRY of LAND 1", x.many(15), 1400);
  }

  private static void carryOfEachLand() {
    for (int land = 0; land <= 3; land++) {
      for (int rule = 0; rule <= 1; rule++) {
        PlayPool x = new PlayPool();
        x.rule(rule);
        x.listener(land, 2);
        x.pass(MONTH);
        for (int what = 14; what <= 17; what++) {
          is.eq("CARRY of LAND " + (what - 14), x.many(what), what == 14 + land ? 350 : 0);
        }
        x.track(9);
        x.window(0, land, 0, 99999);
        x.play(0, 0, MONTH, 60);
        is.eq("would be SPLIT", x.wouldGet(9, 0), 700);
        is.eq("would be SPLIT", x.wouldGet(9, 1), 700);
        is.eq("not yet", x.many(14 + land), 350);
        x.pass(MONTH);
        is.eq("SPLIT", x.ofRecording(9, 3), 700);
        is.eq("no CARRY of LAND " + land, x.many(14 + land), 0);
      }
    }
  }

  // ---- what is HELD, and the BOX

  private static void heldFrom101On() {
    for (int second = 40; second <= 41; second++) {
      PlayPool x = Houses.oneSong(1);
      x.claim(0, 0, 60);
      x.claim(0, 4, second);
      boolean conflict = second == 41;
      is.eq("would be PAID", x.wouldPay(0, 0), 0);
      x.pass(MONTH);
      is.eq("HELD", x.ofRecording(0, 2), conflict ? 700 : 0);
      is.eq("all that is HELD", x.many(10), conflict ? 700 : 0);
      is.eq("DUE", x.ofParty(0, 0), conflict ? 0 : 420);
      is.eq("DUE", x.ofParty(4, 0), conflict ? 0 : 280);
      is.eq("the BOX", x.many(9), 0);
      is.eq("got anyhow", x.ofRecording(0, 3), 700);
    }
  }

  // 9 hundredths of 140 are 12, those of 280 are 25.
  private static void heldIsSharedWithWhatIsGot() {
    PlayPool x = Houses.oneSong(0);
    x.claim(0, 0, 9);
    x.claim(0, 1, 92);
    x.pass(MONTH);
    is.eq("HELD", x.ofRecording(0, 2), 140);
    x.claim(0, 1, 91);
    x.play(0, 0, MONTH, 60);
    x.pass(MONTH);
    is.eq("nothing is HELD", x.ofRecording(0, 2), 0);
    is.eq("DUE, rounded once", x.ofParty(0, 0), 25);
    is.eq("DUE, rounded once", x.ofParty(1, 0), 254);
    is.eq("the BOX", x.many(9), 1);
    is.eq("got ever", x.ofRecording(0, 3), 280);
  }

  private static void heldThroughManyMonths() {
    PlayPool x = Houses.songs(1);
    x.listener(0, 1);
    x.claim(0, 0, 100);
    x.claim(0, 1, 1);
    for (int month = 0; month < 5; month++) {
      x.play(0, 0, month * MONTH, 60);
      x.pass(MONTH);
      is.eq("HELD", x.ofRecording(0, 2), 700 * (month + 1));
    }
    x.claim(0, 1, 0);
    is.eq("HELD until the end of the MONTH", x.ofRecording(0, 2), 3500);
    is.eq("would be PAID", x.wouldPay(0, 1), 3500);
    is.eq("nothing would be got", x.wouldGet(0, 1), 0);
    is.eq("a minute ahead of it", x.pass(MONTH - 1), 0);
    is.eq("at the end", x.pass(1), 3500);
    is.eq("nothing is HELD", x.many(10), 0);
    is.eq("got ever", x.ofRecording(0, 3), 3500);
  }

  private static void heldByTheClaimsOfTheEnd() {
    PlayPool x = Houses.oneSong(0);
    x.claim(0, 0, 100);
    x.pass(MONTH - 1);
    x.claim(0, 1, 1);
    x.pass(1);
    is.eq("told in the last minute", x.ofRecording(0, 2), 140);
    x.claim(0, 1, 0);
    x.claim(0, 1, 100);
    x.pass(MONTH);
    is.eq("no CONFLICT in between is as none", x.ofRecording(0, 2), 140);
    PlayPool y = Houses.oneSong(0);
    y.claim(0, 0, 100);
    y.pass(MONTH);
    y.claim(0, 1, 1);
    is.eq("told a minute later", y.ofRecording(0, 2), 0);
    is.eq("DUE already", y.ofParty(0, 0), 140);
    y.pass(MONTH);
    is.eq("DUE still", y.ofParty(0, 0), 140);
  }

  private static void heldOfOneRecordingAlone() {
    PlayPool x = heard(1, 1, 0, 0, 0, 0, 0, 0, 0, 0, 1);
    x.claim(9, 0, 100);
    x.claim(9, 1, 100);
    x.claim(0, 0, 100);
    x.pass(MONTH);
    is.eq("HELD of the last", x.ofRecording(9, 2), 350);
    is.eq("HELD of the first", x.ofRecording(0, 2), 0);
    is.eq("DUE by the first", x.ofParty(0, 0), 350);
    is.eq("DUE to the other", x.ofParty(1, 0), 0);
  }

  private static void heldOfEachRecording() {
    for (int recording = 0; recording <= 9; recording++) {
      PlayPool x = Houses.songs(10);
      x.listener(0, 1);
      x.play(0, recording, 0, 60);
      x.claim(recording, 0, 100);
      x.claim(recording, 4, 1);
      x.pass(MONTH);
      is.eq("HELD", x.ofRecording(recording, 2), 700);
      x.claim(recording, 4, 0);
      is.eq("would be PAID", x.wouldPay(0, 0), 700);
      is.eq("would be PAID", x.wouldPay(0, 1), 700);
      is.eq("would not be got again", x.wouldGet(recording, 0), 0);
      is.eq("is PAID", x.pass(MONTH), 700);
      is.eq("not HELD", x.ofRecording(recording, 2), 0);
    }
  }

  private static void heldGoesIntoTheBoxWithoutClaims() {
    PlayPool x = Houses.oneSong(1);
    x.claim(0, 0, 100);
    x.claim(0, 1, 100);
    x.pass(MONTH);
    is.eq("HELD", x.many(10), 700);
    x.claim(0, 0, 0);
    x.claim(0, 1, 1);
    is.eq("nobody is PAID", x.pass(MONTH), 0);
    is.eq("nothing is HELD", x.many(10), 0);
    is.eq("DUE", x.many(11), 7);
    is.eq("the BOX", x.many(9), 693);
  }

  // Of 140: 1 hundredth is 1 (1.4), 99 are 138 (138.6), 5 are 7, 6 are 8 (8.4).
  private static void partsAreRoundedDown() {
    PlayPool x = Houses.oneSong(0);
    x.claim(0, 0, 1);
    x.claim(0, 4, 99);
    x.pass(MONTH);
    is.eq("1 hundredth", x.ofParty(0, 0), 1);
    is.eq("99 hundredths", x.ofParty(4, 0), 138);
    is.eq("the rest", x.many(9), 1);
    PlayPool y = Houses.oneSong(0);
    y.claim(0, 1, 5);
    y.claim(0, 2, 6);
    y.pass(MONTH);
    is.eq("5 hundredths", y.ofParty(1, 0), 7);
    is.eq("6 hundredths", y.ofParty(2, 0), 8);
    is.eq("the rest", y.many(9), 125);
  }

  private static void boxWithoutClaims() {
    PlayPool x = Houses.oneSong(2);
    is.eq("nobody is PAID", x.pass(MONTH), 0);
    is.eq("all of it", x.many(9), 350);
    x.claim(0, 0, 100);
    x.play(0, 0, MONTH, 60);
    x.pass(MONTH);
    is.eq("no more", x.many(9), 350);
    is.eq("DUE, without that in the BOX", x.ofParty(0, 0), 350);
  }

  private static void lastPartyHasAll() {
    PlayPool x = Houses.oneSong(1);
    x.claim(0, 4, 100);
    is.eq("PAID", x.pass(MONTH), 700);
    is.eq("PAID", x.ofParty(4, 1), 700);
    is.eq("another one", x.ofParty(3, 1), 0);
    is.eq("no BOX", x.many(9), 0);
  }

  // ---- what is DUE, RECOUPED and PAID

  private static void advanceBesideWhatIsDue() {
    int[][] ends = {
      // ADVANCE, then: DUE, PAID, ADVANCE, RECOUPED.
      {1, 0, 699, 0, 1}, {199, 0, 501, 0, 199}, {200, 0, 500, 0, 200}, {201, 499, 0, 0, 201},
      {699, 1, 0, 0, 699}, {700, 0, 0, 0, 700}, {701, 0, 0, 1, 700}, {99999, 0, 0, 99299, 700}};
    for (int[] one : ends) {
      PlayPool x = Houses.oneSong(1);
      x.claim(0, 3, 100);
      x.advance(3, one[0]);
      is.eq("would be PAID with an ADVANCE of " + one[0], x.wouldPay(3, 0), one[2]);
      is.eq("PAID with an ADVANCE of " + one[0], x.pass(MONTH), one[2]);
      for (int what = 0; what <= 3; what++) {
        is.eq("ofParty(3, " + what + ") with " + one[0], x.ofParty(3, what), one[what + 1]);
      }
    }
  }

  // Of 700: 71 hundredths are 497, 72 are 504.
  private static void paidFrom500On() {
    int[][] ends = {{71, 0, 497}, {72, 504, 0}, {0, 0, 0}, {100, 700, 0}};
    for (int[] one : ends) {
      PlayPool x = Houses.oneSong(1);
      x.claim(0, 2, one[0]);
      is.eq("would be PAID by " + one[0], x.wouldPay(2, 1), one[1]);
      is.eq("PAID by " + one[0], x.pass(MONTH), one[1]);
      is.eq("DUE by " + one[0], x.ofParty(2, 0), one[2]);
    }
  }

  private static void dueStaysBelow500() {
    PlayPool x = Houses.songs(1);
    x.listener(0, 0);
    x.claim(0, 0, 100);
    for (int month = 1; month <= 3; month++) {
      x.play(0, 0, x.many(0), 60);
      is.eq("would be below 500", x.wouldPay(0, month % 2), 0);
      is.eq("below 500", x.pass(MONTH), 0);
      is.eq("it stays DUE", x.ofParty(0, 0), 140 * month);
    }
    x.play(0, 0, x.many(0), 60);
    is.eq("would be all of it", x.wouldPay(0, 0), 560);
    is.eq("would be all of it", x.wouldPay(0, 1), 560);
    is.eq("all of it", x.pass(MONTH), 560);
    is.eq("nothing is DUE", x.ofParty(0, 0), 0);
    is.eq("PAID ever", x.many(12), 560);
  }

  // 490 were DUE already, and 700 are got: 1190 less the ADVANCE.
  private static void dueOfEachParty() {
    for (int party = 0; party <= 4; party++) {
      PlayPool x = Houses.oneSong(1);
      x.claim(0, party, 70);
      x.pass(MONTH);
      is.eq("DUE", x.ofParty(party, 0), 490);
      x.claim(0, party, 100);
      x.play(0, 0, MONTH, 60);
      is.eq("would be PAID", x.wouldPay(party, 0), 1190);
      x.advance(party, 690);
      is.eq("would be PAID, just so", x.wouldPay(party, 1), 500);
      x.advance(party, 1);
      is.eq("would not be PAID", x.wouldPay(party, 0), 0);
      is.eq("is not PAID", x.pass(MONTH), 0);
      is.eq("DUE, just below", x.ofParty(party, 0), 499);
      is.eq("RECOUPED", x.ofParty(party, 3), 691);
      x.play(0, 0, 2 * MONTH, 60);
      is.eq("would be PAID", x.wouldPay(party, 1), 1199);
      is.eq("is PAID", x.pass(MONTH), 1199);
    }
  }

  private static void advanceTakesWhatWasDueBefore() {
    PlayPool x = Houses.oneSong(2);
    x.claim(0, 1, 100);
    x.pass(MONTH);
    is.eq("DUE", x.ofParty(1, 0), 350);
    x.advance(1, 349);
    is.eq("not ahead of the end of a MONTH", x.ofParty(1, 0), 350);
    x.pass(MONTH - 1);
    is.eq("not a minute ahead of it", x.ofParty(1, 3), 0);
    x.pass(1);
    is.eq("DUE, less the ADVANCE", x.ofParty(1, 0), 1);
    is.eq("no ADVANCE", x.ofParty(1, 2), 0);
    is.eq("RECOUPED", x.ofParty(1, 3), 349);
    x.advance(1, 2);
    x.pass(MONTH);
    is.eq("nothing is DUE", x.ofParty(1, 0), 0);
    is.eq("ADVANCE", x.ofParty(1, 2), 1);
    is.eq("RECOUPED ever", x.ofParty(1, 3), 350);
  }

  private static void advanceOfTheEndOfAMonth() {
    PlayPool x = Houses.oneSong(1);
    x.claim(0, 0, 100);
    x.pass(MONTH - 1);
    x.advance(0, 150);
    is.eq("told in the last minute", x.pass(1), 550);
    PlayPool y = Houses.oneSong(1);
    y.claim(0, 0, 100);
    is.eq("none yet", y.pass(MONTH), 700);
    y.advance(0, 150);
    is.eq("told a minute later", y.ofParty(0, 3), 0);
    y.pass(MONTH);
    is.eq("nothing was DUE", y.ofParty(0, 2), 150);
  }

  private static void partiesAreApart() {
    PlayPool x = heard(1, 1, 1);
    x.listener(0, 1);
    x.claim(0, 0, 72);
    x.claim(0, 1, 28);
    x.claim(1, 1, 72);
    x.claim(1, 2, 28);
    x.advance(0, 4);
    x.advance(1, 200);
    x.advance(2, 196);
    // RECORDINGS 0 and 1 get 700 each: 504, 196 and 504, 196.
    is.eq("PAID", x.pass(MONTH), 500 + 500);
    int[][] due = {{0, 500, 0, 4}, {0, 500, 0, 200}, {0, 0, 0, 196}, {0, 0, 0, 0}};
    for (int party = 0; party < due.length; party++) {
      for (int what = 0; what <= 3; what++) {
        is.eq("ofParty(" + party + ", " + what + ")", x.ofParty(party, what), due[party][what]);
      }
    }
    is.eq("all that was RECOUPED", x.many(13), 400);
  }

  private static void noMoneyIsLost() {
    for (int rule = 0; rule <= 1; rule++) {
      PlayPool x = Houses.songs(7);
      x.rule(rule);
      for (int listener = 0; listener < 8; listener++) {
        x.listener(listener % 2, listener % 3);
      }
      for (int track = 0; track < 7; track++) {
        x.claim(track, track % 5, 33);
        x.claim(track, (track + 1) % 5, 34 + 8 * (track % 5));
      }
      x.advance(0, 300);
      for (int month = 0; month < 6; month++) {
        for (int play = 0; play < 21; play++) {
          x.play(play % 8, play * (month + 1) % 7, x.many(0), 60);
        }
        x.pass(MONTH);
        int parts = 0;
        for (int what = 8; what <= 17; what++) {
          parts += x.many(what);
        }
        int fees = 0;
        for (int listener = 0; listener < 8; listener++) {
          fees += x.ofListener(listener, 7);
        }
        is.eq("all FEES are somewhere", parts, fees);
      }
    }
  }
}
