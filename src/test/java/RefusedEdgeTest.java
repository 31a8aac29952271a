import java.util.function.ToLongFunction;

/** The calls that are refused, next to the last ones that are not, and what changes nothing. */
public final class RefusedEdgeTest extends Edge {
  private static final String BOUNDS = "IndexOutOfBoundsException";
  private static final String ARGUMENT = "IllegalArgumentException";
  private static final String STATE = "IllegalStateException";
  private static final int BLANKS = 0x20202020;
  private static final int LEAST = Integer.MIN_VALUE;
  private static final int MOST = Integer.MAX_VALUE;

  public static void main(String[] args) {
    refusesFeed();
    refusesTrim();
    refusesCount();
    refusesRail();
    refusesFist();
    refusesPrize();
    refusesTurn();
    refusesBoard();
    refusesStrike();
    refusesWindOfNoRail();
    refusesWindOfASpring();
    refusesPass();
    refusesWould();
    refusesPathOfNoRail();
    refusesPathOfATick();
    refusesNeeds();
    refusesForeseeOfRounds();
    refusesForeseeOfWhat();
    refusesAdviseOfNoRail();
    refusesAdviseOfRounds();
    throwsTheFirst();
    leavesTheWholeTape();
    looksOnly();
    foreseesOnly();
    tellsOnly();
    end();
  }

  /** Midway, with an error of the latest teach, and with a bill on the tape. */
  private static BellHammer fed() {
    BellHammer x = midway();
    teach(x, "rail a high 19 puck 4 spring 10;");
    // 80 bytes, so that feeds of 20 come to 2000.
    feedText(x, "rail z high 77 puck 3 spring 5; fist y arm 30 aim 2 elbows 1; turn y at z;      ");
    return x;
  }

  private static BellHammer filled(int length) {
    BellHammer x = fed();
    for (int i = 0; i < 100 && x.count(9) <= 1980; i++) {
      x.feed(BLANKS, BLANKS, BLANKS, BLANKS, BLANKS);
    }
    x.trim(length);
    return x;
  }

  private static void refused(String due, String what, ToLongFunction<BellHammer> call) {
    changesNothing(due, what, RefusedEdgeTest::fed, call);
  }

  private static void refusedByNew(String due, String what, ToLongFunction<BellHammer> call) {
    changesNothing(due, what + " of a new contest", BellHammer::new, call);
  }

  private static void answered(long due, String what, ToLongFunction<BellHammer> call) {
    due(call.applyAsLong(fed()), due, what);
  }

  // ---- the language

  private static void refusesFeed() {
    sentence(2, "Throws `IllegalStateException` if there would be more than 2000");
    for (int length : new int[] {1981, 1990, 1999}) {
      changesNothing(STATE, "feed behind " + length, () -> filled(length),
          x -> x.feed(0x3f3f3f3f, 0, 0, 0, 0));
    }
    due(filled(1980).feed(BLANKS, BLANKS, BLANKS, BLANKS, BLANKS), 2000, "feed behind 1980");
    due(filled(1961).feed(BLANKS, BLANKS, BLANKS, BLANKS, BLANKS), 1981, "feed behind 1961");
    due(new BellHammer().feed(0, 0, 0, 0, 0), 20, "feed of an empty tape");
  }

  private static void refusesTrim() {
    sentence(3, "Throws `IllegalArgumentException` if n is not 0 to the number of bytes of the"
        + " tape");
    int length = fed().count(9);
    answered(length, "trim of nothing", x -> x.trim(length));
    answered(0, "trim of all", x -> x.trim(0));
    for (int bad : new int[] {-1, length + 1, 2000, 2001, LEAST, MOST}) {
      refused(ARGUMENT, "trim(" + bad + ")", x -> x.trim(bad));
    }
    for (int bad : new int[] {-1, 1, 20, LEAST, MOST}) {
      refusedByNew(ARGUMENT, "trim(" + bad + ")", x -> x.trim(bad));
    }
    due(new BellHammer().trim(0), 0, "trim(0) of an empty tape");
    BellHammer behind = fed();
    behind.teach();
    illegalArgument("trim(1) behind teach", behind, x -> x.trim(1));
    BellHammer full = new BellHammer();
    feedText(full, " ".repeat(2000));
    illegalArgument("trim(2001) of a full tape", full, x -> x.trim(2001));
    due(full.trim(2000), 2000, "trim(2000) of a full tape");
    due(full.trim(17), 17, "trim(17)");
    illegalArgument("trim(18) behind trim(17)", full, x -> x.trim(18));
  }

  private static void refusesCount() {
    sentence(6, "Throws `IndexOutOfBoundsException` if what is not 0 to 9");
    answered(2, "count(0)", x -> x.count(0));
    answered(80, "count(9)", x -> x.count(9));
    for (int bad : new int[] {-1, 10, LEAST, MOST}) {
      refused(BOUNDS, "count(" + bad + ")", x -> x.count(bad));
      refusedByNew(BOUNDS, "count(" + bad + ")", x -> x.count(bad));
    }
  }

  // ---- what is there

  private static void refusesRail() {
    sentence(7, "Throws `IndexOutOfBoundsException` if there is no such rail, or what is not 0 to"
        + " 4");
    answered(20, "rail(0, 0)", x -> x.rail(0, 0));
    answered(3, "rail(0, 4)", x -> x.rail(0, 4));
    answered(30, "rail(1, 0)", x -> x.rail(1, 0));
    for (int bad : new int[] {-1, 2, 3, 4, LEAST, MOST}) {
      refused(BOUNDS, "rail(" + bad + ", 0)", x -> x.rail(bad, 0));
    }
    for (int bad : new int[] {-1, 5, LEAST, MOST}) {
      refused(BOUNDS, "rail(1, " + bad + ")", x -> x.rail(1, bad));
      refused(BOUNDS, "rail(2, " + bad + ")", x -> x.rail(2, bad));
    }
    refusedByNew(BOUNDS, "rail(0, 0)", x -> x.rail(0, 0));
    outOfBounds("rail(4, 0) of a full bill", taught(fullBill()), x -> x.rail(4, 0));
    due(taught(fullBill()).rail(3, 4), 0, "rail(3, 4) of a full bill");
  }

  private static void refusesFist() {
    sentence(8, "Throws `IndexOutOfBoundsException` if there is no such fist, or what is not 0 to"
        + " 8");
    answered(8, "fist(0, 0)", x -> x.fist(0, 0));
    answered(2, "fist(0, 8)", x -> x.fist(0, 8));
    answered(12, "fist(1, 0)", x -> x.fist(1, 0));
    for (int bad : new int[] {-1, 2, 3, 8, LEAST, MOST}) {
      refused(BOUNDS, "fist(" + bad + ", 0)", x -> x.fist(bad, 0));
    }
    for (int bad : new int[] {-1, 9, LEAST, MOST}) {
      refused(BOUNDS, "fist(1, " + bad + ")", x -> x.fist(1, bad));
      refused(BOUNDS, "fist(2, " + bad + ")", x -> x.fist(2, bad));
    }
    refusedByNew(BOUNDS, "fist(0, 0)", x -> x.fist(0, 0));
    outOfBounds("fist(8, 0) of a full bill", taught(fullBill()), x -> x.fist(8, 0));
    due(taught(fullBill()).fist(7, 8), 1, "fist(7, 8) of a full bill");
  }

  private static void refusesPrize() {
    sentence(9, "Throws `IndexOutOfBoundsException` if there is no such prize, or what is not 0 to"
        + " 3");
    answered(1, "prize(1, 3)", x -> x.prize(1, 3));
    for (int bad : new int[] {-1, 2, 3, 8, LEAST, MOST}) {
      refused(BOUNDS, "prize(" + bad + ", 0)", x -> x.prize(bad, 0));
    }
    for (int bad : new int[] {-1, 4, LEAST, MOST}) {
      refused(BOUNDS, "prize(1, " + bad + ")", x -> x.prize(1, bad));
      refused(BOUNDS, "prize(2, " + bad + ")", x -> x.prize(2, bad));
    }
    refusedByNew(BOUNDS, "prize(0, 0)", x -> x.prize(0, 0));
    outOfBounds("prize(8, 0) of a full bill", taught(fullBill()), x -> x.prize(8, 0));
    due(taught(fullBill()).prize(7, 0), 9, "prize(7, 0) of a full bill");
  }

  private static void refusesTurn() {
    sentence(10, "Throws `IndexOutOfBoundsException` if there is no such turn, or what is not 0 to"
        + " 3");
    answered(0, "turn(0, 0)", x -> x.turn(0, 0));
    answered(1, "turn(2, 3)", x -> x.turn(2, 3));
    for (int bad : new int[] {-1, 3, 4, 20, LEAST, MOST}) {
      refused(BOUNDS, "turn(" + bad + ", 0)", x -> x.turn(bad, 0));
    }
    for (int bad : new int[] {-1, 4, LEAST, MOST}) {
      refused(BOUNDS, "turn(2, " + bad + ")", x -> x.turn(2, bad));
      refused(BOUNDS, "turn(3, " + bad + ")", x -> x.turn(3, bad));
    }
    refusedByNew(BOUNDS, "turn(0, 0)", x -> x.turn(0, 0));
    outOfBounds("turn(20, 0) of a full bill", taught(fullBill()), x -> x.turn(20, 0));
    due(taught(fullBill()).turn(19, 2), 19, "turn(19, 2) of a full bill");
  }

  private static void refusesBoard() {
    sentence(11, "Throws `IndexOutOfBoundsException` if the board has none there");
    BellHammer x = fed();
    int size = x.count(8);
    answered(30, "board(" + (size - 1) + "), the first strike", y -> y.board(size - 1));
    for (int bad : new int[] {-1, size, size + 1, 9, 10, LEAST, MOST}) {
      refused(BOUNDS, "board(" + bad + ")", y -> y.board(bad));
    }
    refusedByNew(BOUNDS, "board(0)", y -> y.board(0));
    BellHammer full = taught("rail a high 20 puck 4 spring 0; fist f arm 5 aim 0 elbows 0;");
    for (int strikes = 1; strikes <= 12; strikes++) {
      full.strike(0, 0);
      int most = Math.min(10, strikes);
      due(full.board(most - 1), strikes <= 10 ? 15 : strikes == 11 ? 1 : 0, "the last one");
      outOfBounds("board behind " + strikes + " strikes", full, y -> y.board(most));
    }
    teach(full, "");
    outOfBounds("board(0) behind a bill", full, y -> y.board(0));
  }

  // ---- strikes and rounds

  private static void refusesStrike() {
    sentence(12, "Throws `IndexOutOfBoundsException` if there is no such fist or rail");
    for (int bad : new int[] {-1, 2, 4, 8, LEAST, MOST}) {
      refused(BOUNDS, "strike(" + bad + ", 0)", x -> x.strike(bad, 0));
      refused(BOUNDS, "strike(0, " + bad + ")", x -> x.strike(0, bad));
      refused(BOUNDS, "strike(" + bad + ", " + bad + ")", x -> x.strike(bad, bad));
    }
    refusedByNew(BOUNDS, "strike(0, 0)", x -> x.strike(0, 0));
    answered(fed().would(1, 1, 0), "strike(1, 1)", x -> x.strike(1, 1));
    BellHammer full = taught(fullBill());
    outOfBounds("strike(8, 3)", full, x -> x.strike(8, 3));
    outOfBounds("strike(7, 4)", full, x -> x.strike(7, 4));
    due(full.strike(7, 3), 23, "strike(7, 3)");
    outOfBounds("strike without rails", taught("fist f arm 5 aim 0 elbows 0;"),
        x -> x.strike(0, 0));
    outOfBounds("strike without fists", taught("rail a high 20 puck 4 spring 10;"),
        x -> x.strike(0, 0));
  }

  private static void refusesWindOfNoRail() {
    sentence(13, "Throws `IndexOutOfBoundsException` if there is no such rail");
    answered(19, "wind(1, 0)", x -> x.wind(1, 0));
    for (int bad : new int[] {-1, 2, 4, LEAST, MOST}) {
      for (int spring : new int[] {0, 20}) {
        refused(BOUNDS, "wind(" + bad + ", " + spring + ")", x -> x.wind(bad, spring));
      }
    }
    refusedByNew(BOUNDS, "wind(0, 0)", x -> x.wind(0, 0));
    BellHammer full = taught(fullBill());
    outOfBounds("wind(4, 0)", full, x -> x.wind(4, 0));
    due(full.wind(3, 0), 10, "wind(3, 0)");
  }

  private static void refusesWindOfASpring() {
    sentence(13, "Throws `IllegalArgumentException` if spring is not 0 to 20");
    answered(10, "wind(0, 0)", x -> x.wind(0, 0));
    answered(10, "wind(0, 20)", x -> x.wind(0, 20));
    for (int bad : new int[] {-1, 21, 99, LEAST, MOST}) {
      refused(ARGUMENT, "wind(0, " + bad + ")", x -> x.wind(0, bad));
      refused(ARGUMENT, "wind(1, " + bad + ")", x -> x.wind(1, bad));
    }
  }

  private static void refusesPass() {
    sentence(14, "Throws `IllegalArgumentException` if rounds is not 1 to 30");
    for (int rounds : new int[] {1, 2, 29, 30}) {
      BellHammer x = fed();
      x.pass(rounds);
      due(x.count(0), 2 + rounds, "the round behind pass(" + rounds + ")");
    }
    for (int bad : new int[] {0, -1, 31, LEAST, MOST}) {
      refused(ARGUMENT, "pass(" + bad + ")", x -> x.pass(bad));
      refusedByNew(ARGUMENT, "pass(" + bad + ")", x -> x.pass(bad));
    }
  }

  // ---- what would be

  private static void refusesWould() {
    sentence(15, "Throws `IndexOutOfBoundsException` if there is no such fist or rail, or what is"
        + " not 0 to 2");
    for (int bad : new int[] {-1, 2, 4, 8, LEAST, MOST}) {
      refused(BOUNDS, "would(" + bad + ", 0, 0)", x -> x.would(bad, 0, 0));
      refused(BOUNDS, "would(0, " + bad + ", 0)", x -> x.would(0, bad, 0));
    }
    for (int bad : new int[] {-1, 3, LEAST, MOST}) {
      refused(BOUNDS, "would(1, 1, " + bad + ")", x -> x.would(1, 1, bad));
      refused(BOUNDS, "would(2, 2, " + bad + ")", x -> x.would(2, 2, bad));
    }
    refusedByNew(BOUNDS, "would(0, 0, 0)", x -> x.would(0, 0, 0));
    BellHammer full = taught(fullBill());
    due(full.would(7, 3, 0), 23, "would(7, 3, 0)");
    outOfBounds("would(8, 3, 0)", full, x -> x.would(8, 3, 0));
    outOfBounds("would(7, 4, 0)", full, x -> x.would(7, 4, 0));
    outOfBounds("would without fists", taught("rail a high 20 puck 4 spring 10;"),
        x -> x.would(0, 0, 0));
  }

  private static void refusesPathOfNoRail() {
    sentence(16, "Throws `IndexOutOfBoundsException` if there is no such fist or rail");
    for (int bad : new int[] {-1, 2, 4, 8, LEAST, MOST}) {
      refused(BOUNDS, "path(" + bad + ", 0, 0)", x -> x.path(bad, 0, 0));
      refused(BOUNDS, "path(0, " + bad + ", 300)", x -> x.path(0, bad, 300));
    }
    refusedByNew(BOUNDS, "path(0, 0, 0)", x -> x.path(0, 0, 0));
    BellHammer full = taught(fullBill());
    due(full.path(7, 3, 1), 23, "path(7, 3, 1)");
    outOfBounds("path(8, 3, 1)", full, x -> x.path(8, 3, 1));
    outOfBounds("path(7, 4, 1)", full, x -> x.path(7, 4, 1));
  }

  private static void refusesPathOfATick() {
    sentence(16, "Throws `IllegalArgumentException` if tick is not 0 to 300");
    answered(0, "path(1, 1, 0)", x -> x.path(1, 1, 0));
    answered(0, "path(1, 1, 300)", x -> x.path(1, 1, 300));
    for (int bad : new int[] {-1, 301, LEAST, MOST}) {
      refused(ARGUMENT, "path(1, 1, " + bad + ")", x -> x.path(1, 1, bad));
    }
  }

  private static void refusesNeeds() {
    sentence(17, "Throws `IndexOutOfBoundsException` if there is no such fist or rail");
    for (int bad : new int[] {-1, 2, 4, 8, LEAST, MOST}) {
      refused(BOUNDS, "needs(" + bad + ", 1)", x -> x.needs(bad, 1));
      refused(BOUNDS, "needs(1, " + bad + ")", x -> x.needs(1, bad));
    }
    refusedByNew(BOUNDS, "needs(0, 0)", x -> x.needs(0, 0));
    BellHammer full = taught(fullBill());
    due(full.needs(7, 3) > 0 ? 1 : 0, 1, "needs(7, 3) is there");
    outOfBounds("needs(8, 3)", full, x -> x.needs(8, 3));
    outOfBounds("needs(7, 4)", full, x -> x.needs(7, 4));
    outOfBounds("needs without rails", taught("fist f arm 5 aim 0 elbows 0;"),
        x -> x.needs(0, 0));
  }

  private static void refusesForeseeOfRounds() {
    sentence(18, "Throws `IllegalArgumentException` if rounds is not 1 to 30");
    for (int rounds : new int[] {1, 30}) {
      for (int what = 0; what <= 3; what++) {
        int asked = what;
        answered(due(rounds, what), "foresee(" + rounds + ", " + what + ")",
            x -> x.foresee(rounds, asked));
      }
    }
    for (int bad : new int[] {0, -1, 31, LEAST, MOST}) {
      refused(ARGUMENT, "foresee(" + bad + ", 0)", x -> x.foresee(bad, 0));
      refusedByNew(ARGUMENT, "foresee(" + bad + ", 3)", x -> x.foresee(bad, 3));
    }
  }

  private static int due(int rounds, int what) {
    BellHammer x = fed();
    int[] before = {0, 0, x.count(6), x.count(5)};
    int given = x.pass(rounds);
    int[] then = {given, x.count(7), x.count(6), x.count(5)};
    return then[what] - before[what];
  }

  private static void refusesForeseeOfWhat() {
    sentence(18, "Throws `IndexOutOfBoundsException` if what is not 0 to 3");
    for (int bad : new int[] {-1, 4, LEAST, MOST}) {
      refused(BOUNDS, "foresee(1, " + bad + ")", x -> x.foresee(1, bad));
      refused(BOUNDS, "foresee(30, " + bad + ")", x -> x.foresee(30, bad));
      refusedByNew(BOUNDS, "foresee(1, " + bad + ")", x -> x.foresee(1, bad));
    }
  }

  private static void refusesAdviseOfNoRail() {
    sentence(19, "Throws `IndexOutOfBoundsException` if there is no such rail");
    for (int bad : new int[] {-1, 2, 4, LEAST, MOST}) {
      refused(BOUNDS, "advise(" + bad + ", 1)", x -> x.advise(bad, 1));
      refused(BOUNDS, "advise(" + bad + ", 4)", x -> x.advise(bad, 4));
    }
    refusedByNew(BOUNDS, "advise(0, 1)", x -> x.advise(0, 1));
    BellHammer full = taught(fullBill());
    due(full.advise(3, 4) >= 0 ? 1 : 0, 1, "advise(3, 4) is there");
    outOfBounds("advise(4, 4)", full, x -> x.advise(4, 4));
  }

  private static void refusesAdviseOfRounds() {
    sentence(19, "Throws `IllegalArgumentException` if rounds is not 1 to 4");
    answered(leastSpring(1), "advise(0, 1)", x -> x.advise(0, 1));
    answered(leastSpring(4), "advise(0, 4)", x -> x.advise(0, 4));
    for (int bad : new int[] {0, -1, 5, 30, LEAST, MOST}) {
      refused(ARGUMENT, "advise(1, " + bad + ")", x -> x.advise(1, bad));
    }
  }

  private static int leastSpring(int rounds) {
    int best = 0;
    int least = MOST;
    for (int spring = 20; spring >= 0; spring--) {
      BellHammer x = fed();
      x.wind(0, spring);
      x.pass(rounds);
      best = x.count(7) <= least ? spring : best;
      least = Math.min(least, x.count(7));
    }
    return best;
  }

  // ---- of all

  private static void throwsTheFirst() {
    sentence(4, "If several exceptions apply, the one that is named first is thrown.");
    for (int bad : new int[] {-1, 2, LEAST, MOST}) {
      for (int worse : new int[] {-1, 301, LEAST, MOST}) {
        refused(BOUNDS, "wind(" + bad + ", " + worse + ")", x -> x.wind(bad, worse));
        refused(BOUNDS, "path(" + bad + ", 0, " + worse + ")", x -> x.path(bad, 0, worse));
        refused(BOUNDS, "path(0, " + bad + ", " + worse + ")", x -> x.path(0, bad, worse));
        refused(BOUNDS, "advise(" + bad + ", " + worse + ")", x -> x.advise(bad, worse));
        refused(ARGUMENT, "foresee(" + worse + ", " + worse + ")", x -> x.foresee(worse, worse));
      }
    }
    refusedByNew(BOUNDS, "wind(0, 21)", x -> x.wind(0, 21));
    refusedByNew(BOUNDS, "path(0, 0, 301)", x -> x.path(0, 0, 301));
    refusedByNew(BOUNDS, "advise(0, 0)", x -> x.advise(0, 0));
    refusedByNew(ARGUMENT, "foresee(0, 4)", x -> x.foresee(0, 4));
    refusedByNew(ARGUMENT, "foresee(31, -1)", x -> x.foresee(31, -1));
  }

  private static void leavesTheWholeTape() {
    sentence(2, "A method that throws an exception changes nothing.");
    changesNothing(STATE, "feed of a full tape", () -> filled(2000),
        x -> x.feed(0x3f3f3f3f, 0x3f3f3f3f, 0x3f3f3f3f, 0x3f3f3f3f, 0x3f3f3f3f));
    changesNothing(ARGUMENT, "trim of a full tape", () -> filled(2000), x -> x.trim(2001));
    BellHammer x = new BellHammer();
    feedText(x, " ".repeat(1969) + "rail a high 20 puck 4 spring 10");
    for (int i = 0; i < 3; i++) {
      illegalState("feed of a full tape", x, y -> y.feed(0x3b3b3b3b, 0, 0, 0, 0));
      illegalArgument("trim of a full tape", x, y -> y.trim(-1));
    }
    due(x.count(9), 2000, "bytes behind refused calls");
    due(x.teach(), 1, "teach behind refused calls");
    due(x.errorAt(), 2000, "no byte was added");
  }

  private static void looksOnly() {
    sentence(15, "Returns this, if this fist struck there now (nothing is changed).");
    for (int fist = 0; fist < 2; fist++) {
      for (int rail = 0; rail < 2; rail++) {
        int f = fist;
        int r = rail;
        String given = "(" + f + ", " + r + ")";
        changesNothing("", "would" + given, RefusedEdgeTest::fed, x -> x.would(f, r, 0));
        changesNothing("", "path" + given, RefusedEdgeTest::fed, x -> x.path(f, r, 7));
        changesNothing("", "needs" + given, RefusedEdgeTest::fed, x -> x.needs(f, r));
      }
    }
  }

  private static void foreseesOnly() {
    sentence(18, "Returns this, if nothing is done by others (nothing is changed).");
    for (int rounds : new int[] {1, 2, 30}) {
      for (int what = 0; what <= 3; what++) {
        int asked = what;
        changesNothing("", "foresee(" + rounds + ", " + what + ")", RefusedEdgeTest::fed,
            x -> x.foresee(rounds, asked));
      }
    }
    changesNothing("0", "foresee(30, 3) of a new contest", BellHammer::new, x -> x.foresee(30, 3));
    for (int rounds = 1; rounds <= 4; rounds++) {
      int asked = rounds;
      changesNothing("", "advise(0, " + rounds + ")", RefusedEdgeTest::fed,
          x -> x.advise(0, asked));
      changesNothing("", "advise(1, " + rounds + ")", RefusedEdgeTest::fed,
          x -> x.advise(1, asked));
    }
  }

  private static void tellsOnly() {
    sentence(21, "Nothing is promised beyond the answers and state changes described above");
    changesNothing("", "digest()", RefusedEdgeTest::fed, x -> x.digest());
    changesNothing("", "mean()", RefusedEdgeTest::fed, x -> (long) x.mean());
    changesNothing("12", "errorAt()", RefusedEdgeTest::fed, x -> x.errorAt());
    changesNothing("", "prize(1, 2)", RefusedEdgeTest::fed, x -> x.prize(1, 2));
    changesNothing("", "turn(1, 3)", RefusedEdgeTest::fed, x -> x.turn(1, 3));
    changesNothing("", "fist(1, 8)", RefusedEdgeTest::fed, x -> x.fist(1, 8));
  }
}
