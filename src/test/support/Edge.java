import java.util.function.Supplier;
import java.util.function.ToLongFunction;

/**
 * What the edge tests share: which sentence of the document is tried, bills, due answers, and calls
 * that have to leave everything as it is.
 */
abstract class Edge {
  private static int promise;
  private static String sentence = "";
  private static int sentences;
  private static int wrong;

  /** All checks up to the next sentence are about this one. */
  static void sentence(int ofPromise, String quote) {
    promise = ofPromise;
    sentence = quote;
    sentences++;
  }

  static void end() {
    System.out.println(
        wrong == 0 ? sentences + " sentences hold" : wrong + " answers are wrong");
    if (wrong != 0) {
      System.exit(1);
    }
  }

  static void due(long got, long want, String what) {
    if (got != want) {
      fail(what + " answered " + got + ", due is " + want);
    }
  }

  static void dueText(String got, String want, String what) {
    if (!got.equals(want)) {
      fail(what + " answered " + got + ", due is " + want);
    }
  }

  static void fail(String text) {
    wrong++;
    System.out.println("promise " + promise + ", \"" + sentence + "\": " + text);
  }

  // ---- bills

  static void feedText(BellHammer x, String text) {
    int[] numbers = new int[5];
    int before = x.count(9);
    for (int from = 0; from < text.length(); from += 20) {
      for (int i = 0; i < 20; i++) {
        int sign = from + i < text.length() ? text.charAt(from + i) : ' ';
        numbers[i / 4] = numbers[i / 4] << 8 | sign;
      }
      x.feed(numbers[0], numbers[1], numbers[2], numbers[3], numbers[4]);
    }
    x.trim(before + text.length());
  }

  static int teach(BellHammer x, String bill) {
    feedText(x, bill);
    return x.teach();
  }

  static BellHammer taught(String bill) {
    BellHammer x = new BellHammer();
    if (teach(x, bill) != 0) {
      fail("this bill is refused at " + x.errorAt() + ": " + bill);
    }
    return x;
  }

  static void accepted(String bill) {
    answers(0, -1, bill);
  }

  /** The @ in the bill is not fed: it marks the place of the error. */
  static void refused(int error, String marked) {
    int at = marked.indexOf('@');
    answers(error, at, marked.substring(0, at) + marked.substring(at + 1));
  }

  static void answers(int error, int at, String bill) {
    BellHammer x = new BellHammer();
    due(teach(x, bill), error, "teach() of " + bill);
    due(x.errorAt(), at, "errorAt() of " + bill);
  }

  /** As many of all as there may be: 400 tokens. */
  static String fullBill() {
    StringBuilder bill = new StringBuilder();
    for (int i = 0; i < 4; i++) {
      bill.append("rail r" + i + " high " + (20 + i) + " puck " + (1 + i) + " spring 10;");
    }
    for (int i = 0; i < 12; i++) {
      bill.append("rust on r" + i % 4 + " from " + i + " to " + (i + 1) + " by 1;");
    }
    for (int i = 0; i < 8; i++) {
      bill.append("fist f" + i + " arm " + (1 + i) + " aim 20 elbows 0;");
    }
    for (int i = 0; i < 8; i++) {
      bill.append("prize p" + i + " worth 1 of " + (2 + i) + " when rings;");
    }
    for (int i = 0; i < 20; i++) {
      bill.append("turn f" + (i == 19 ? 7 : i % 8) + " at r" + i % 4 + ";");
    }
    return bill.toString();
  }

  /** Two of each sort, midway: with strikes, purses, sore arms and pushes, and a strike just now. */
  static BellHammer midway() {
    BellHammer x = taught("rail a high 20 puck 4 spring 10; rail b high 30 puck 2 spring 19;"
        + "rust on a from 9 to 9 by 1; fist f arm 8 aim 0 elbows 0; fist g arm 12 aim 3 elbows 4;"
        + "prize p worth purse f + sore g + 3 of 4 when rings;"
        + "prize q worth height - best b of 9 when not rings and round < 9;"
        + "turn f at a when rings or round > 0; turn g at b when height <= 30; turn f at b;");
    x.strike(1, 1);
    x.pass(2);
    x.strike(0, 0);
    return x;
  }

  static String worth(String sum) {
    return "prize p worth " + sum + " of 1 when rings;";
  }

  static String when(String test) {
    return "prize p worth 1 of 1 when " + test + ";";
  }

  static void worthIs(String sum, int value) {
    due(taught(worth(sum)).prize(0, 2), value, sum);
  }

  static void holds(String test) {
    due(taught(when(test)).prize(0, 3), 1, test);
  }

  static void holdsNot(String test) {
    due(taught(when(test)).prize(0, 3), 0, test);
  }

  // ---- exceptions

  static void outOfBounds(String what, BellHammer x, ToLongFunction<BellHammer> call) {
    dueText(answer(x, call), "IndexOutOfBoundsException", what);
  }

  static void illegalArgument(String what, BellHammer x, ToLongFunction<BellHammer> call) {
    dueText(answer(x, call), "IllegalArgumentException", what);
  }

  static void illegalState(String what, BellHammer x, ToLongFunction<BellHammer> call) {
    dueText(answer(x, call), "IllegalStateException", what);
  }

  private static String answer(BellHammer x, ToLongFunction<BellHammer> call) {
    try {
      return Long.toString(call.applyAsLong(x));
    } catch (RuntimeException thrown) {
      return thrown.getClass().getSimpleName();
    }
  }

  // ---- calls that change nothing

  /**
   * Makes the call on a contest and spares its twin from it: it has to answer as is due, all other
   * methods have to answer the same ahead of it and behind it, and so they have to when both
   * contests go on and read what is on their tapes.
   */
  static void changesNothing(
      String due, String what, Supplier<BellHammer> maker, ToLongFunction<BellHammer> call) {
    BellHammer x = maker.get();
    BellHammer twin = maker.get();
    String before = allAnswers(x) + x.errorAt();
    String got = answer(x, call);
    if (!due.isEmpty()) {
      dueText(got, due, what);
    }
    dueText(allAnswers(x) + x.errorAt(), before, "all behind " + what);
    allAnswers(twin);
    sameFromNowOn(x, twin, what);
  }

  static void sameFromNowOn(BellHammer x, BellHammer twin, String what) {
    if (x.count(1) > 0 && x.count(2) > 0) {
      due(x.strike(0, 0), twin.strike(0, 0), "a strike behind " + what);
    }
    due(x.pass(3), twin.pass(3), "rounds behind " + what);
    due(x.digest(), twin.digest(), "the digest of later rounds behind " + what);
    due(x.teach(), twin.teach(), "teach behind " + what);
    due(x.errorAt(), twin.errorAt(), "errorAt behind " + what);
    dueText(allAnswers(x), allAnswers(twin), "all that is taught behind " + what);
  }

  /** What all methods but errorAt answer, in some 110 calls for a contest of two of each sort. */
  static String allAnswers(BellHammer x) {
    StringBuilder all = new StringBuilder("counts");
    int[] counts = new int[10];
    for (int what = 0; what < counts.length; what++) {
      counts[what] = x.count(what);
      all.append(' ').append(counts[what]);
    }
    addThings(all, x, counts);
    for (int rail = 0; rail < counts[1]; rail++) {
      all.append(" advise ").append(x.advise(rail, 1)).append(' ').append(x.advise(rail, 4));
      for (int fist = 0; fist < counts[2]; fist++) {
        all.append(" flight ").append(x.needs(fist, rail));
        for (int what = 0; what < 3; what++) {
          all.append(' ').append(x.would(fist, rail, what));
          all.append(' ').append(x.path(fist, rail, 1 + 4 * what));
        }
      }
    }
    all.append(" foresee");
    for (int what = 0; what < 4; what++) {
      all.append(' ').append(x.foresee(1, what)).append(' ').append(x.foresee(5, what));
    }
    return all.append(' ').append(x.mean()).append(' ').append(x.digest()).append(' ').toString();
  }

  private static void addThings(StringBuilder all, BellHammer x, int[] counts) {
    for (int i = 0; i < counts[1] * 5; i++) {
      all.append(i == 0 ? " rails " : " ").append(x.rail(i / 5, i % 5));
    }
    for (int i = 0; i < counts[2] * 9; i++) {
      all.append(i == 0 ? " fists " : " ").append(x.fist(i / 9, i % 9));
    }
    for (int i = 0; i < counts[3] * 4; i++) {
      all.append(i == 0 ? " prizes " : " ").append(x.prize(i / 4, i % 4));
    }
    for (int i = 0; i < counts[4] * 4; i++) {
      all.append(i == 0 ? " turns " : " ").append(x.turn(i / 4, i % 4));
    }
    for (int i = 0; i < counts[8]; i++) {
      all.append(i == 0 ? " board " : " ").append(x.board(i));
    }
  }
}
