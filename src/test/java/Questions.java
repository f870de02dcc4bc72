import java.math.BigInteger;
import java.util.ArrayList;
import java.util.List;

/**
 * All that can be asked of a house, by its face alone. As an object answers 512 calls and no more,
 * the same house is made again for each part of the questions.
 */
final class Questions {
  private static final int OF_ONE_HOUSE = 200;

  interface Made {
    PlayPool house();
  }

  private interface Question {
    Object of(PlayPool x);
  }

  private interface PairQuestion {
    Object of(PlayPool x, int i, int j);
  }

  private final List<String> names = new ArrayList<>();
  private final List<Question> questions = new ArrayList<>();

  private Questions(int tracks, int listeners, int plays) {
    grid("many", 1, 18, (x, i, j) -> x.many(j));
    grid("reasons", 1, 6, (x, i, j) -> x.reasons(j));
    add("meanSeconds", x -> x.meanSeconds());
    grid("ofTrack", tracks, 4, (x, i, j) -> x.ofTrack(i, j));
    grid("ofListener", listeners, 8, (x, i, j) -> x.ofListener(i, j));
    grid("next", 1, listeners, (x, i, j) -> x.next(j));
    grid("ofParty", 5, 4, (x, i, j) -> x.ofParty(i, j));
    grid("wouldPay", 5, 2, (x, i, j) -> x.wouldPay(i, j));
    grid("ofRecording", 10, 7, (x, i, j) -> x.ofRecording(i, j));
    grid("wouldGet", 10, 2, (x, i, j) -> x.wouldGet(i, j));
    grid("chart", 4, 11, (x, i, j) -> x.chart(i, j));
    for (int one = 0; one < 10; one++) {
      int i = one;
      for (int other = one + 1; other < 10; other++) {
        int j = other;
        add("alike(" + i + ", " + j + ")", x -> x.alike(i, j));
      }
    }
    grid("ofPlay", plays, 6, (x, i, j) -> x.ofPlay(i, j));
    add("digest", x -> x.digest());
  }

  private void add(String name, Question question) {
    names.add(name);
    questions.add(question);
  }

  private void grid(String name, int rows, int columns, PairQuestion question) {
    for (int row = 0; row < rows; row++) {
      int i = row;
      for (int column = 0; column < columns; column++) {
        int j = column;
        add(name + "(" + i + ", " + j + ")", x -> question.of(x, i, j));
      }
    }
  }

  /** Each question with its answer, in a line of its own. */
  static List<String> all(Made made) {
    PlayPool like = made.house();
    Questions asked = new Questions(like.many(2), like.many(4), like.many(5));
    List<String> lines = new ArrayList<>();
    PlayPool x = null;
    for (int i = 0; i < asked.questions.size(); i++) {
      if (i % OF_ONE_HOUSE == 0) {
        x = made.house();
      }
      lines.add(asked.names.get(i) + " answered " + asked.questions.get(i).of(x));
    }
    return lines;
  }

  /** The digest as the document tells it, by a number that does not wrap around. */
  static long digestOf(Made made) {
    BigInteger[] d = {BigInteger.valueOf(9106)};
    PlayPool x = made.house();
    int tracks = x.many(2);
    int listeners = x.many(4);
    int plays = x.many(5);
    stepTotals(d, x);
    for (int track = 0; track < tracks; track++) {
      for (int what = 0; what <= 3; what++) {
        step(d, x.ofTrack(track, what));
      }
    }
    for (int listener = 0; listener < listeners; listener++) {
      for (int what = 0; what <= 7; what++) {
        step(d, x.ofListener(listener, what));
      }
      step(d, x.next(listener));
    }
    stepRights(d, made.house());
    PlayPool y = made.house();
    for (int play = 0; play < plays; play++) {
      step(d, y.ofPlay(play, 4));
    }
    return d[0].longValue();
  }

  private static void stepTotals(BigInteger[] d, PlayPool x) {
    for (int what = 0; what <= 17; what++) {
      step(d, x.many(what));
    }
    for (int reason = 0; reason <= 5; reason++) {
      step(d, x.reasons(reason));
    }
  }

  private static void stepRights(BigInteger[] d, PlayPool x) {
    for (int party = 0; party <= 4; party++) {
      for (int what = 0; what <= 3; what++) {
        step(d, x.ofParty(party, what));
      }
      step(d, x.wouldPay(party, 0));
      step(d, x.wouldPay(party, 1));
    }
    for (int recording = 0; recording <= 9; recording++) {
      for (int what = 0; what <= 6; what++) {
        step(d, x.ofRecording(recording, what));
      }
      step(d, x.wouldGet(recording, 0));
      step(d, x.wouldGet(recording, 1));
    }
    for (int land = 0; land <= 3; land++) {
      step(d, x.chart(land, 0));
      step(d, x.chart(land, 1));
    }
    step(d, x.alike(0, 1));
  }

  private static void step(BigInteger[] d, int v) {
    d[0] = d[0].multiply(BigInteger.valueOf(31)).add(BigInteger.valueOf(v));
  }
}
