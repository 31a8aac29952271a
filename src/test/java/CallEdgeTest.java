import java.math.BigInteger;

/** The edges of the promises 1 to 21: what each call answers at the least and most, empty, full. */
public final class CallEdgeTest extends Edge {
  private static final String RAIL = "rail a high 20 puck 4 spring 10;";
  private static final String FIST = "fist f arm 5 aim 0 elbows 0;";
  private static final int BLANKS = 0x20202020;

  public static void main(String[] args) {
    isNew();
    answers512Calls();
    feedsBytes();
    trims();
    teachesInThePlace();
    staysBehindAnError();
    tellsTheLatestError();
    counts();
    tellsRails();
    tellsFists();
    tellsPlaces();
    tellsPrizes();
    tellsTurns();
    tellsTheBoard();
    strikesOutOfTurn();
    winds();
    passes();
    wouldBe();
    tellsPaths();
    tellsNeeds();
    foresees();
    foreseesFromNow();
    advises();
    advisesTheLeast();
    tellsMeans();
    tellsDigests();
    end();
  }

  private static void isNew() {
    sentence(1, "Creates a contest without rails and fists, in the round 0.");
    BellHammer x = new BellHammer();
    for (int what = 0; what <= 9; what++) {
      due(x.count(what), 0, "count(" + what + ")");
    }
    due(x.errorAt(), -1, "errorAt()");
    outOfBounds("rail(0, 0)", x, y -> y.rail(0, 0));
    outOfBounds("fist(0, 0)", x, y -> y.fist(0, 0));
    outOfBounds("prize(0, 0)", x, y -> y.prize(0, 0));
    outOfBounds("turn(0, 0)", x, y -> y.turn(0, 0));
    outOfBounds("board(0)", x, y -> y.board(0));
    outOfBounds("strike(0, 0)", x, y -> y.strike(0, 0));
    outOfBounds("wind(0, 0)", x, y -> y.wind(0, 0));
    outOfBounds("would(0, 0, 0)", x, y -> y.would(0, 0, 0));
    outOfBounds("path(0, 0, 0)", x, y -> y.path(0, 0, 0));
    outOfBounds("needs(0, 0)", x, y -> y.needs(0, 0));
    outOfBounds("advise(0, 1)", x, y -> y.advise(0, 1));
    for (int what = 0; what <= 3; what++) {
      due(x.foresee(30, what), 0, "foresee(30, " + what + ")");
    }
    due(x.mean() == 0 ? 1 : 0, 1, "mean() is 0");
    due(x.digest(), digestOf(), "digest()");
    due(x.trim(0), 0, "trim(0)");
    due(x.teach(), 0, "teach() of nothing");
    due(x.pass(1), 0, "pass(1)");
    due(x.count(0), 1, "the round behind pass(1)");
    due(new BellHammer().count(0), 0, "the round of another object");
    due(taught(RAIL).count(2), 0, "fists of a bill with a rail only");
    outOfBounds("strike without fists", taught(RAIL), y -> y.strike(0, 0));
    outOfBounds("strike without rails", taught(FIST), y -> y.strike(0, 0));
    outOfBounds("needs without rails", taught(FIST), y -> y.needs(0, 0));
    outOfBounds("would without fists", taught(RAIL), y -> y.would(0, 0, 0));
  }

  private static void answers512Calls() {
    sentence(1, "An object is used for at most 512 calls after it has been made");
    String bill = RAIL + FIST + "prize p worth 1 of 99 when height >= 0;"
        + "turn f at a;".repeat(20);
    BellHammer x = taught(bill);
    // Each feed takes 20 bytes, and count(9), trim and teach are calls, too.
    int used = (bill.length() + 19) / 20 + 3;
    for (int call = used + 1; call <= 510; call++) {
      x.pass(30);
    }
    due(x.count(5), 600 * (510 - used), "call 511: strikes of 30 rounds a call");
    due(x.count(0), 30 * (510 - used), "call 512: the round");
    BellHammer y = new BellHammer();
    for (int i = 1; i <= 255; i++) {
      y.feed(BLANKS, BLANKS, BLANKS, BLANKS, i % 2 == 0 ? BLANKS : 0x2020203f);
      due(y.teach(), i % 2, "teach, call " + 2 * i);
    }
    due(y.errorAt(), 19, "call 511: errorAt");
    due(y.count(9), 0, "call 512: bytes of the tape");
    BellHammer z = taught(RAIL + FIST);
    for (int i = 1; i <= 500; i++) {
      int height = z.strike(0, 0);
      due(height, i == 1 ? 15 : i == 2 ? 1 : 0, "strike " + i);
    }
    due(z.fist(0, 5), 500, "strikes of the fist");
    due(z.rail(0, 4), 500, "strikes at the rail");
  }

  // ---- the language

  private static void feedsBytes() {
    sentence(2, "Appends twenty bytes to the tape: the four bytes of each number, the highest one"
        + " first.");
    for (int at = 0; at < 20; at++) {
      int[] n = {BLANKS, BLANKS, BLANKS, BLANKS, BLANKS};
      int shift = 24 - 8 * (at % 4);
      for (int sign : new int[] {0, '?', 128, 160, 255}) {
        n[at / 4] = BLANKS & ~(255 << shift) | sign << shift;
        BellHammer x = new BellHammer();
        due(x.feed(n[0], n[1], n[2], n[3], n[4]), 20, "feed");
        due(x.teach(), 1, "teach of the byte " + sign);
        due(x.errorAt(), at, "errorAt of the byte " + sign);
      }
    }
    BellHammer x = new BellHammer();
    x.feed(0x0a200a20, BLANKS, BLANKS, BLANKS, 0x2020200a);
    due(x.teach(), 0, "blanks and line ends");
    for (int number : new int[] {Integer.MIN_VALUE, -1, 0, 1, Integer.MAX_VALUE}) {
      due(x.feed(number, number, number, number, number), 20, "feed of " + number);
      due(x.teach(), 1, "teach of " + number);
      due(x.errorAt(), 0, "errorAt of " + number);
    }
    x.feed(BLANKS, BLANKS, BLANKS, BLANKS, BLANKS);
    due(x.feed(BLANKS, BLANKS, BLANKS, BLANKS, BLANKS), 40, "feed of bytes 21 to 40");
    x.trim(33);
    due(x.feed(0x3f202020, BLANKS, BLANKS, BLANKS, BLANKS), 53, "feed behind trim");
    x.teach();
    due(x.errorAt(), 33, "the first byte behind trim");
  }

  private static void trims() {
    sentence(3, "Shortens the tape to its first bytes. - `n`: how many are kept Returns n.");
    BellHammer x = new BellHammer();
    due(x.trim(0), 0, "trim(0) of an empty tape");
    x.feed(BLANKS, BLANKS, BLANKS, BLANKS, 0x3f202020);
    due(x.trim(20), 20, "trim of nothing");
    due(x.count(9), 20, "bytes behind trim of nothing");
    due(x.trim(17), 17, "trim(17)");
    due(x.count(9), 17, "bytes behind trim(17)");
    due(x.teach(), 1, "the 17th byte is kept");
    due(x.errorAt(), 16, "the 17th byte is kept");
    x.feed(BLANKS, BLANKS, BLANKS, BLANKS, 0x3f202020);
    due(x.trim(16), 16, "trim(16)");
    due(x.count(9), 16, "bytes behind trim(16)");
    due(x.teach(), 0, "the 17th byte is not kept");
    x.feed(0x3f202020, BLANKS, BLANKS, BLANKS, BLANKS);
    due(x.trim(1), 1, "trim(1)");
    due(x.teach(), 1, "the first byte is kept");
    due(x.errorAt(), 0, "the first byte is kept");
    BellHammer full = new BellHammer();
    feedText(full, " ".repeat(1999) + "?");
    due(full.trim(2000), 2000, "trim of nothing of a full tape");
    due(full.trim(1999), 1999, "trim of one byte of a full tape");
    due(full.trim(0), 0, "trim(0) of a full tape");
    due(full.count(9), 0, "bytes behind trim(0)");
    due(full.feed(BLANKS, BLANKS, BLANKS, BLANKS, BLANKS), 20, "feed behind trim(0)");
    due(full.teach(), 0, "nothing is left of the full tape");
  }

  private static void teachesInThePlace() {
    sentence(4, "Reads the tape as a bill, in the place of all that was told before; the round"
        + " stays, there was no strike yet, and the board is empty.");
    String[] bills = {
      "", RAIL, FIST, RAIL + FIST,
      "rail z high 33 puck 1 spring 20; rail y high 20 puck 9 spring 0; fist f arm 20 aim 1 elbows"
          + " 9; fist e arm 30 aim 0 elbows 0; prize p worth 7 + height of 9 when rings or height ="
          + " 0; rust on z from 0 to 20 by 1; rust on y from 3 to 9 by 2; turn e at y; turn f at z;"
    };
    for (String bill : bills) {
      for (int before = 0; before <= 4; before++) {
        BellHammer x = midway();
        for (int i = 0; i < before; i++) {
          // From the second bill on, a forgotten one is in the way, or what was foreseen of one.
          due(teach(x, bills[4]), 0, "a bill in between");
          x.strike(0, 0);
          x.strike(1, 0);
          due(i % 2 == 0 ? x.foresee(1, 3) : 2, 2, "strikes that are foreseen");
          x.pass(1);
          x.strike(1, 1);
        }
        due(teach(x, bill), 0, "teach of " + bill);
        BellHammer fresh = new BellHammer();
        fresh.pass(2 + before);
        due(teach(fresh, bill), 0, "teach of " + bill);
        due(x.count(0), 2 + before, "the round stays");
        due(x.count(8), 0, "the board is empty");
        outOfBounds("board(0) behind a bill", x, y -> y.board(0));
        dueText(allAnswers(x), allAnswers(fresh), "all behind a bill");
        sameFromNowOn(x, fresh, "a bill behind a bill");
      }
    }
    BellHammer x = taught(RAIL + FIST + "turn f at a;");
    x.strike(0, 0);
    x.wind(0, 20);
    due(teach(x, RAIL + FIST + "turn f at a when rings;"), 0, "teach behind wind");
    due(x.rail(0, 2), 10, "the spring is that of the new bill");
    x.pass(1);
    due(x.count(5), 0, "the turn is that of the new bill");
  }

  private static void staysBehindAnError() {
    sentence(4, "If it has an error, all stays (but the tape is empty). Returns 0, or the error, 1"
        + " to 6.");
    String base = "rail b high 99 puck 1 spring 20; rail c high 50 puck 9 spring 1;"
        + "rust on b from 0 to 99 by 9; fist h arm 60 aim 20 elbows 9; fist f arm 1 aim 1 elbows 1;"
        + "prize r worth 5 of 5 when height > 0; turn h at b; turn f at c when rings;";
    String[] bad = {
      base + "rail", base + "rail b high 20 puck 4 spring 10;", base + "turn g at b;",
      base + "turn h at b;".repeat(19), base + "rail d high 100 puck 4 spring 10;",
      base + "rust on b from 1 to 0 by 1;"
    };
    int[] at = {
      base.length() + 4, base.length() + 5, base.length() + 5, base.length() + 18 * 12,
      base.length() + 12, base.length() + 20
    };
    for (int i = 0; i < bad.length; i++) {
      BellHammer x = midway();
      BellHammer twin = midway();
      due(teach(x, bad[i]), 1 + i, "teach of " + bad[i]);
      due(x.errorAt(), at[i], "errorAt of " + bad[i]);
      due(x.count(9), 0, "bytes of the tape behind an error");
      dueText(allAnswers(x), allAnswers(twin), "all behind an error");
      sameFromNowOn(x, twin, "an error");
      BellHammer empty = new BellHammer();
      due(teach(empty, bad[i]), 1 + i, "teach of " + bad[i]);
      dueText(allAnswers(empty), allAnswers(new BellHammer()), "all of a new object");
    }
  }

  private static void tellsTheLatestError() {
    sentence(5, "Returns the position of the error of the latest teach(); -1 if it had none, or"
        + " there was none.");
    BellHammer x = new BellHammer();
    due(x.errorAt(), -1, "errorAt without teach");
    x.feed(0x3f3f3f3f, 0, 0, 0, 0);
    due(x.errorAt(), -1, "errorAt behind feed");
    x.teach();
    due(x.errorAt(), 0, "errorAt of the first byte");
    feedText(x, RAIL);
    due(x.errorAt(), 0, "errorAt behind feed and trim");
    due(x.teach(), 0, "teach");
    due(x.errorAt(), -1, "errorAt of a bill without errors");
    feedText(x, " ".repeat(1999) + "?");
    x.teach();
    due(x.errorAt(), 1999, "errorAt of the last byte");
    x.pass(1);
    illegalArgument("pass(0)", x, y -> y.pass(0));
    due(x.errorAt(), 1999, "errorAt behind other calls");
    feedText(x, "rail" + " ".repeat(1996));
    x.teach();
    due(x.errorAt(), 2000, "errorAt of the end of a full tape");
    due(teach(x, "rail"), 1, "teach");
    due(x.errorAt(), 4, "errorAt of the end of a tape");
    due(teach(x, RAIL + RAIL), 2, "teach");
    due(x.errorAt(), RAIL.length() + 5, "errorAt of a name");
    x.teach();
    due(x.errorAt(), -1, "errorAt of an empty bill");
  }

  private static void counts() {
    sentence(6, "- `what`: 0 the round, 1 rails, 2 fists, 3 prizes, 4 turns, 5 strikes in all, 6 bells in"
        + " all, 7 all purses, added, 8 heights on the board, 9 bytes of the tape");
    BellHammer x = taught(fullBill());
    int[] full = {0, 4, 8, 8, 20, 0, 0, 0, 0, 0};
    for (int what = 0; what <= 9; what++) {
      due(x.count(what), full[what], "count(" + what + ") of a full bill");
    }
    for (int what : new int[] {-1, 10, Integer.MIN_VALUE, Integer.MAX_VALUE}) {
      outOfBounds("count(" + what + ")", x, y -> y.count(what));
    }
    for (int i = 1; i <= 12; i++) {
      x.strike(0, 3);
      due(x.count(5), i, "strikes in all");
      due(x.count(8), Math.min(10, i), "heights on the board");
    }
    due(x.count(0), 0, "the round behind strikes");
    due(x.count(6), x.fist(0, 7), "bells in all");
    x.feed(0, 0, 0, 0, 0);
    due(x.count(9), 20, "bytes of the tape");
    x.pass(30);
    due(x.count(0), 30, "the round");
    due(x.count(5), 612, "strikes in all");
    int purses = 0;
    int bells = 0;
    for (int fist = 0; fist < 8; fist++) {
      bells += x.fist(fist, 7);
      purses += x.fist(fist, 4);
    }
    due(x.count(6), bells, "bells in all are those of all fists");
    due(x.count(7), purses, "all purses");
  }

  // ---- what is there

  private static void tellsRails() {
    sentence(7, "- `what`: 0 its high, 1 its puck, 2 its spring, 3 the greatest height there so far, 4"
        + " strikes there");
    BellHammer x = taught(RAIL + "rail b high 99 puck 9 spring 20;" + FIST);
    int[][] due = {{20, 4, 10, 0, 0}, {99, 9, 20, 0, 0}};
    for (int i = 0; i < 10; i++) {
      due(x.rail(i / 5, i % 5), due[i / 5][i % 5], "rail(" + i / 5 + ", " + i % 5 + ")");
    }
    x.strike(0, 0);
    due(x.rail(0, 3), 15, "the greatest height");
    due(x.rail(0, 4), 1, "strikes there");
    x.strike(0, 0);
    due(x.rail(0, 3), 15, "the greatest height behind a lower one");
    due(x.rail(0, 4), 2, "strikes there");
    due(x.rail(1, 3) + x.rail(1, 4), 0, "nothing at the other rail");
    x.strike(0, 1);
    due(x.rail(1, 3), 0, "the greatest height is 0 still");
    due(x.rail(1, 4), 1, "strikes there");
  }

  private static void tellsFists() {
    sentence(8, "- `what`: 0 its arm, 1 its aim, 2 its elbows, 3 by how much it is sore, 4 its purse, 5 its"
        + " strikes, 6 the greatest height of these, 7 bells that it rang in all, 8 its place");
    BellHammer x = taught("rail a high 20 puck 4 spring 10; fist f arm 1 aim 0 elbows 0;"
        + "fist g arm 60 aim 20 elbows 9; prize p worth 7 of 1 when rings;");
    int[][] due = {{1, 0, 0, 0, 0, 0, 0, 0, 1}, {60, 20, 9, 0, 0, 0, 0, 0, 1}};
    for (int i = 0; i < 18; i++) {
      due(x.fist(i / 9, i % 9), due[i / 9][i % 9], "fist(" + i / 9 + ", " + i % 9 + ")");
    }
    x.strike(0, 0);
    x.strike(1, 0);
    int[][] then = {{1, 0, 0, 4, 0, 1, 1, 0, 2}, {60, 20, 9, 4, 7, 1, 20, x.count(6), 1}};
    for (int i = 0; i < 18; i++) {
      due(x.fist(i / 9, i % 9), then[i / 9][i % 9], "fist(" + i / 9 + ", " + i % 9 + ") then");
    }
    x.strike(0, 0);
    due(x.fist(0, 6), 1, "the greatest height behind a strike of 0");
  }

  private static void tellsPlaces() {
    sentence(8, "8 its place: 1, and 1 more for each fist with a greater purse");
    StringBuilder bill = new StringBuilder(RAIL);
    for (int i = 0; i < 8; i++) {
      bill.append("fist f" + i + " arm 5 aim 0 elbows 0;");
    }
    int[] worths = {5, 0, -5, 5, 9, 0, 0, 9};
    for (int i = 0; i < 8; i++) {
      String worth = worths[i] < 0 ? "0 - 5" : "" + worths[i];
      bill.append("prize p" + i + " worth " + worth + " of 1 when height >= 0;");
    }
    BellHammer x = taught(bill.toString());
    for (int fist = 0; fist < 8; fist++) {
      due(x.fist(fist, 8), 1, "the place with equal purses");
    }
    for (int fist = 0; fist < 8; fist++) {
      x.strike(fist, 0);
    }
    int[] places = {3, 5, 8, 3, 1, 5, 5, 1};
    for (int fist = 0; fist < 8; fist++) {
      due(x.fist(fist, 4), worths[fist], "the purse of fist " + fist);
      due(x.fist(fist, 8), places[fist], "the place of fist " + fist);
    }
    BellHammer one = taught(RAIL + FIST + "prize p worth 0 - 1 of 1 when height >= 0;");
    one.strike(0, 0);
    due(one.fist(0, 8), 1, "the place of the only fist");
  }

  private static void tellsPrizes() {
    sentence(9, "- `what`: 0 how often it is still there, 1 how often it was given, 2 its worth now, 3 1 if"
        + " its test holds now, else 0");
    BellHammer x = taught(RAIL + FIST + "prize p worth 2 + height of 1 when height = 15;"
        + "prize q worth 3 of 0 when height < 9;");
    int[][] due = {{1, 0, 2, 0}, {0, 0, 3, 1}};
    x.pass(1);
    for (int i = 0; i < 8; i++) {
      due(x.prize(i / 4, i % 4), due[i / 4][i % 4], "prize(" + i / 4 + ", " + i % 4 + ")");
    }
    x.strike(0, 0);
    int[][] then = {{0, 1, 17, 1}, {0, 0, 3, 0}};
    for (int i = 0; i < 8; i++) {
      due(x.prize(i / 4, i % 4), then[i / 4][i % 4], "prize(" + i / 4 + ", " + i % 4 + ") then");
    }
  }

  private static void tellsTurns() {
    sentence(10, "- `what`: 0 its fist, 1 its rail, 2 its place in the row, from 0, 3 1 if its test holds now,"
        + " or it has none, else 0");
    BellHammer x = taught(RAIL + "rail b high 20 puck 1 spring 0;" + FIST
        + "fist g arm 5 aim 0 elbows 9; turn f at b; turn g at a when height = 0;");
    int[][] due = {{0, 1, 0, 1}, {1, 0, 1, 1}};
    for (int i = 0; i < 8; i++) {
      due(x.turn(i / 4, i % 4), due[i / 4][i % 4], "turn(" + i / 4 + ", " + i % 4 + ")");
    }
    x.pass(1);
    int[][] then = {{0, 1, 1, 1}, {1, 0, 0, 0}};
    for (int i = 0; i < 8; i++) {
      due(x.turn(i / 4, i % 4), then[i / 4][i % 4], "turn(" + i / 4 + ", " + i % 4 + ") then");
    }
  }

  private static void tellsTheBoard() {
    sentence(11, "- `index`: 0 for the latest strike, 1 for the one ahead of it, and so on Returns its height"
        + " (the board has the latest 10).");
    BellHammer x = taught("rail a high 99 puck 1 spring 0; fist f arm 7 aim 0 elbows 0;"
        + "rail b high 99 puck 9 spring 0; fist g arm 60 aim 0 elbows 0;");
    int[] heights = new int[13];
    for (int i = 0; i < heights.length; i++) {
      due(x.count(8), Math.min(10, i), "heights on the board behind " + i + " strikes");
      int none = Math.min(10, i);
      outOfBounds("board(" + none + ") behind " + i + " strikes", x, y -> y.board(none));
      outOfBounds("board(-1) behind " + i + " strikes", x, y -> y.board(-1));
      heights[i] = x.would(i % 2, i % 2, 0);
      due(x.strike(i % 2, i % 2), heights[i], "strike " + i);
      for (int index = 0; index <= i && index < 10; index++) {
        due(x.board(index), heights[i - index], "board(" + index + ") behind strike " + i);
      }
    }
    BellHammer free = taught(RAIL + FIST);
    for (int i = 0; i < 3; i++) {
      free.strike(0, 0);
    }
    due(free.board(0), 0, "a height of 0");
    due(free.board(1), 1, "a height of 1");
    due(free.board(2), 15, "a height of 15");
  }

  // ---- strikes and rounds

  private static void strikesOutOfTurn() {
    sentence(12, "A fist strikes at a rail, out of turn.");
    BellHammer x = taught(fullBill());
    int height = x.would(7, 3, 0);
    due(x.strike(7, 3), height, "a strike of the last fist at the last rail");
    due(x.fist(7, 5), 1, "strikes of the last fist");
    due(x.rail(3, 4), 1, "strikes at the last rail");
    due(x.strike(0, 0), 20, "a strike of the first fist at the first rail");
    due(x.count(0), 0, "the round");
    due(x.count(5), 2, "strikes in all");
  }

  private static void winds() {
    sentence(13, "Puts a new spring into a rail. - `rail`: the rail - `spring`: its spring from now on Returns"
        + " the spring before.");
    BellHammer x = taught("rail a high 20 puck 1 spring 0; rail b high 20 puck 1 spring 20;"
        + "fist f arm 60 aim 20 elbows 0; turn f at a;");
    due(x.would(0, 0, 1), 1, "bells with a spring of 0");
    due(x.wind(0, 20), 0, "the spring before");
    due(x.rail(0, 2), 20, "the greatest spring");
    due(x.would(0, 0, 1), 3, "bells with a spring of 20");
    due(x.foresee(1, 2), 3, "bells that are foreseen with a spring of 20");
    due(x.wind(0, 19), 20, "the spring before");
    due(x.would(0, 0, 1), 2, "bells with a spring of 19");
    due(x.wind(0, 19), 19, "the same spring again");
    due(x.wind(0, 0), 19, "the spring before");
    due(x.rail(0, 2), 0, "the least spring");
    due(x.would(0, 0, 1), 1, "bells with a spring of 0");
    due(x.rail(1, 2), 20, "the spring of the other rail");
    due(x.wind(1, 1), 20, "the spring of the other rail before");
    due(x.rail(0, 2), 0, "the spring behind refused calls");
    due(x.pass(1) + x.count(6), 1, "bells of a round with a spring of 0");
  }

  private static String rich() {
    StringBuilder bill = new StringBuilder(RAIL + FIST);
    for (int i = 0; i < 8; i++) {
      bill.append("prize p" + i + " worth 1 of 99 when height >= 0;");
    }
    return bill.append("turn f at a;".repeat(20)).toString();
  }

  private static void passes() {
    sentence(14, "Lets rounds go by. - `rounds`: how many Returns how many prizes are given in them.");
    BellHammer x = taught(rich());
    due(x.pass(1), 20, "prizes of a round");
    due(x.count(0), 1, "the round behind pass(1)");
    due(x.pass(30), 600, "prizes of 30 rounds");
    due(x.count(0), 31, "the round behind pass(30)");
    due(x.pass(29), 172, "prizes until none is left: 792 less 620");
    due(x.count(0), 60, "the round behind pass(29)");
    due(x.pass(30), 0, "no prizes any more");
    due(x.count(0), 90, "the round behind refused calls");
    BellHammer y = taught(RAIL + FIST + "prize p worth 1 of 9 when height >= 0; turn f at a;");
    y.strike(0, 0);
    due(y.pass(2), 2, "a prize that was given ahead counts not");
    BellHammer one = taught(rich());
    BellHammer thirty = taught(rich());
    for (int i = 0; i < 30; i++) {
      one.pass(1);
    }
    thirty.pass(30);
    due(thirty.digest(), one.digest(), "30 rounds are 30 times one");
  }

  // ---- what would be

  private static void wouldBe() {
    sentence(15, "- `what`: 0 the height, 1 the bells, 2 the ticks of the flight Returns this, if this fist"
        + " struck there now");
    BellHammer x = taught(fullBill());
    due(x.would(0, 0, 0), 20, "the height of the first fist at the first rail");
    due(x.would(7, 3, 0), 23, "the height of the last fist at the last rail");
    BellHammer z = taught(RAIL + FIST);
    int[][] due = {{15, 0, 11}, {1, 0, 3}, {0, 0, 0}};
    for (int[] each : due) {
      for (int what = 0; what < 3; what++) {
        due(z.would(0, 0, what), each[what], "would(0, 0, " + what + ")");
      }
      z.strike(0, 0);
    }
  }

  private static void tellsPaths() {
    sentence(16, "Returns where the puck would be behind so many ticks of this flight, 0 with tick"
        + " 0, and behind its end");
    BellHammer x = taught(RAIL + FIST + "rail b high 99 puck 1 spring 20;"
        + "fist g arm 60 aim 20 elbows 0;");
    due(x.path(1, 1, 0), 0, "tick 0");
    due(x.path(1, 1, 1), 99, "tick 1");
    due(x.path(1, 1, 300), 0, "tick 300");
    int[] places = {0, 5, 9, 12, 14, 15, 15, 14, 12, 9, 5, 0, 0};
    for (int tick = 0; tick < places.length; tick++) {
      due(x.path(0, 0, tick), places[tick], "tick " + tick);
      due(x.path(1, 1, 12) > 0 ? 1 : 0, 1, "a longer flight in between");
    }
    for (int tick : new int[] {13, 14, 20, 150, 299, 300}) {
      due(x.path(0, 0, tick), 0, "tick " + tick);
    }
    due(x.count(5), 0, "strikes");
  }

  private static void tellsNeeds() {
    sentence(17, "Returns the least arm, 1 to 99, with which this fist, else as it is, would ring the"
        + " bell there now; -1 if there is none");
    // 6 comes to 21, 5 to 15: the least force that rings at 20 is 6.
    for (int aim = 0; aim <= 20; aim++) {
      BellHammer x = taught("rail a high 20 puck 4 spring 0; fist f arm 60 aim " + aim
          + " elbows 0;");
      due(x.needs(0, 0), Math.max(1, 6 - aim), "needs with an aim of " + aim);
      due(x.fist(0, 0), 60, "the arm stays");
    }
    // With a rust of 1 everywhere a speed of 19 comes to 100, one of 18 to 90; 4 * 43 / 9 is 19.
    BellHammer x = taught("rail a high 99 puck 9 spring 0; rust on a from 0 to 99 by 1;"
        + "rail b high 20 puck 9 spring 0; rail c high 20 puck 2 spring 0;"
        + "rail d high 20 puck 1 spring 0; fist f arm 60 aim 0 elbows 0;");
    due(x.needs(0, 0), 43, "needs with an arm that is not sore");
    for (int i = 1; i <= 6; i++) {
      x.strike(0, 1);
      due(x.needs(0, 0), 43 + 9 * i, "needs with an arm that is sore by " + 9 * i);
    }
    x.strike(0, 2);
    due(x.needs(0, 0), 99, "the greatest arm");
    x.strike(0, 3);
    due(x.fist(0, 3), 57, "sore");
    due(x.needs(0, 0), -1, "an arm of 100 would be needed");
    due(x.needs(0, 1), 57 + 14, "needs at a lower rail: 4 * 14 / 9 is 6");
    outOfBounds("needs(1, 0)", x, y -> y.needs(1, 0));
    due(x.count(5), 8, "strikes");
    // The speeds of 20 and 19 are those of the arms 5 and 4: 4 * 5 rings at 20 at once.
    BellHammer near = taught("rail a high 20 puck 1 spring 0; rail b high 21 puck 1 spring 0;"
        + "rust on a from 0 to 99 by 9;".repeat(6) + "rust on b from 0 to 99 by 9;".repeat(6)
        + "fist f arm 1 aim 0 elbows 0;");
    due(near.needs(0, 0), 5, "needs for the high at once");
    due(near.needs(0, 1), 6, "needs for one more than 20");
  }

  private static void foresees() {
    sentence(18, "- `rounds`: how many, 1 to 30 - `what`: 0 prizes that are given in them, 1 all purses then,"
        + " added, 2 bells in them, 3 strikes in them Returns this, if nothing is done by others");
    BellHammer x = taught(rich());
    due(x.foresee(1, 0), 20, "prizes of a round");
    due(x.foresee(30, 0), 600, "prizes of 30 rounds");
    due(x.foresee(30, 1), 600, "purses behind 30 rounds");
    due(x.foresee(30, 2), 0, "bells of 30 rounds");
    due(x.foresee(30, 3), 600, "strikes of 30 rounds");
    x.pass(30);
    due(x.foresee(30, 0), 192, "prizes of the next 30 rounds");
    due(x.foresee(30, 1), 792, "purses behind the next 30 rounds");
    due(x.foresee(30, 3), 600, "strikes of the next 30 rounds");
    for (int rounds = 1; rounds <= 30; rounds++) {
      BellHammer now = midway();
      BellHammer then = midway();
      int bells = then.count(6);
      int strikes = then.count(5);
      int given = then.pass(rounds);
      due(now.foresee(rounds, 0), given, "prizes of " + rounds + " rounds");
      due(now.foresee(rounds, 1), then.count(7), "purses behind " + rounds + " rounds");
      due(now.foresee(rounds, 2), then.count(6) - bells, "bells of " + rounds + " rounds");
      due(now.foresee(rounds, 3), then.count(5) - strikes, "strikes of " + rounds + " rounds");
    }
  }

  private static void foreseesFromNow() {
    sentence(18, "Returns this, if nothing is done by others");
    String bill = "rail a high 60 puck 2 spring 19; rail b high 40 puck 3 spring 7;"
        + "rust on a from 10 to 30 by 1; rust on b from 0 to 5 by 2; fist f arm 9 aim 4 elbows 1;"
        + "fist g arm 15 aim 3 elbows 8; fist h arm 30 aim 0 elbows 0;"
        + "prize p worth best a + sore g * 100 + sore h * 10000 of 9 when rings and bells < 3;"
        + "prize q worth best b * 10 + purse f of 9 when height > 20;"
        + "prize r worth 1 + left p * 1000 + round of 50 when not rings;"
        + "turn f at a when height > 3; turn f at b; turn g at a when bells = 0; turn g at b;";
    int[][] strikes = {{}, {2, 0}, {2, 1}, {0, 0}, {1, 0}, {2, 0, 0, 1}, {2, 1, 1, 1}};
    for (int passed = 0; passed <= 3; passed++) {
      for (int[] each : strikes) {
        BellHammer now = taught(bill);
        BellHammer then = taught(bill);
        for (BellHammer x : new BellHammer[] {now, then}) {
          for (int i = 0; i < passed; i++) {
            x.pass(1);
          }
          for (int i = 0; i < each.length; i += 2) {
            x.strike(each[i], each[i + 1]);
          }
        }
        foreseesAs(now, then);
      }
    }
    String fair = RAIL + "fist f arm 5 aim 0 elbows 0; fist g arm 8 aim 0 elbows 3;";
    foresees(1, 3, fair + "turn f at a when height = 15;", 0);
    foresees(0, 3, fair + "turn f at a when height = 15;", 1);
    foresees(1, 3, fair + "turn f at a when bells = 1;", 1);
    foresees(1, 3, fair + "turn f at a when rings;", 1);
    foresees(0, 3, fair + "turn f at a when rings;", 0);
    foresees(1, 3, fair + "turn g at a when best a = 15;", 0);
    foresees(1, 3, fair + "turn g at a when sore f = 4;", 0);
    foresees(1, 1, fair + "prize p worth 1 + 10 * sore f of 1 when sore g = 8;"
        + "turn f at a; turn g at a;", 1);
    foresees(7, 1, fair + "prize p worth 7 of 1 when rings; turn g at a when purse g = 7;", 1);
    foresees(1, 2, fair + "turn f at a when sore f + sore g = 4; turn g at a when sore g = 0;", 0);
  }

  /** What is foreseen for the first round behind a strike of this fist. */
  private static void foresees(int due, int what, String bill, int fist) {
    BellHammer x = taught(bill);
    x.strike(fist, 0);
    due(x.foresee(1, what), due, "foresee(1, " + what + ") of " + bill);
  }

  private static void foreseesAs(BellHammer now, BellHammer then) {
    int bells = then.count(6);
    int strikes = then.count(5);
    int given = 0;
    for (int rounds = 1; rounds <= 4; rounds++) {
      given += then.pass(1);
      due(now.foresee(rounds, 0), given, "prizes of " + rounds + " rounds");
      due(now.foresee(rounds, 1), then.count(7), "purses behind " + rounds + " rounds");
      due(now.foresee(rounds, 2), then.count(6) - bells, "bells of " + rounds + " rounds");
      due(now.foresee(rounds, 3), then.count(5) - strikes, "strikes of " + rounds + " rounds");
    }
  }

  /** Springs of 0 to 10 let the bell ring once, of 11 to 19 twice, and 20 three times. */
  private static BellHammer bells(String worth, int spring) {
    return taught("rail a high 20 puck 1 spring " + spring + "; rail b high 20 puck 1 spring 7;"
        + "fist f arm 60 aim 20 elbows 0; fist g arm 1 aim 0 elbows 0;"
        + "prize p worth " + worth + " of 99 when rings; turn f at a;");
  }

  private static void advises() {
    sentence(19, "Looks for the spring with which all purses, added, are the least behind so many rounds, if a"
        + " rail has it from now on.");
    BellHammer x = bells("9 - bells", 3);
    for (int rounds = 1; rounds <= 4; rounds++) {
      due(x.advise(0, rounds), 20, "advise(0, " + rounds + ")");
      due(x.advise(1, rounds), 0, "advise(1, " + rounds + ")");
    }
    due(x.rail(0, 2), 3, "the spring stays");
    // With the prize of the first 3 rounds 20 is the worst, with that of the 4th it is the best.
    BellHammer late = bells("max(bells, round / 3 * (99 - 40 * bells))", 3);
    due(late.advise(0, 3), 0, "advise for 3 rounds");
    due(late.advise(0, 4), 20, "advise for 4 rounds");
  }

  private static void advisesTheLeast() {
    sentence(19, "Returns this, 0 to 20, of several the least");
    for (int spring : new int[] {0, 11, 20}) {
      due(bells("bells", spring).advise(0, 1), 0, "of several the least: 0 to 10");
      due(bells("7", spring).advise(0, 4), 0, "of several the least: all");
      due(bells("(bells - 2) * (bells - 2)", spring).advise(0, 2), 11, "11 to 19");
      due(bells("9 - bells", spring).advise(0, 3), 20, "20 alone");
      due(bells("0 - bells", spring).advise(0, 3), 20, "20 alone, with purses below 0");
    }
    String most = "65536 * 32768 - 2";
    due(bells(most + " + bells", 0).advise(0, 1), 11, "a purse that wraps around");
    due(bells("999 + bells", 0).advise(0, 1), 0, "a purse that does not wrap around");
    BellHammer two = bells(most + " + bells - sore f * 0", 0);
    two.strike(1, 0);
    due(two.advise(0, 1), 11, "a purse behind a strike that does not ring");
    BellHammer sum = taught("rail a high 20 puck 1 spring 0; rail b high 20 puck 1 spring 0;"
        + "fist f arm 60 aim 20 elbows 0; fist g arm 60 aim 20 elbows 0;"
        + "prize p worth " + most + " of 1 when rings; prize q worth bells of 9 when rings;"
        + "turn f at a;");
    sum.strike(1, 1);
    due(sum.count(7), Integer.MAX_VALUE - 1, "all purses are 1 less than the greatest number");
    due(sum.advise(0, 1), 11, "all purses, added, wrap around as count(7) tells them");
    BellHammer now = bells("9 - bells", 20);
    now.strike(0, 0);
    due(now.advise(0, 1), 20, "from now on: with 6 in the purse");
    BellHammer hits = bells("bells", 20);
    hits.pass(1);
    due(hits.advise(0, 4), 0, "a spring of 0 from now on");
    due(hits.count(7), 3, "all purses stay");
  }

  private static void tellsMeans() {
    sentence(20, "Returns the mean height of all strikes on the board; 0 without any.");
    BellHammer x = taught("rail a high 20 puck 4 spring 0; rail b high 20 puck 4 spring 0;"
        + "fist f arm 5 aim 0 elbows 0; fist g arm 60 aim 20 elbows 0;");
    meanIs(x, 0, 1);
    int[] fists = {0, 1, 0, 1, 1, 0, 0, 0, 0, 0, 0, 0, 0};
    // The mean of 15 20 1 20 20 and then 0, 0, ..: from the 11th on, the first ones drop out.
    int[] sums = {15, 35, 36, 56, 76, 76, 76, 76, 76, 76, 61, 41, 40};
    for (int i = 0; i < fists.length; i++) {
      x.strike(fists[i], 0);
      meanIs(x, sums[i], Math.min(10, i + 1));
    }
    teach(x, RAIL + FIST);
    meanIs(x, 0, 1);
    x.strike(0, 0);
    meanIs(x, 15, 1);
    teach(x, "rail");
    meanIs(x, 15, 1);
    BellHammer weak = taught("rail a high 20 puck 9 spring 0; fist f arm 1 aim 0 elbows 0;");
    weak.strike(0, 0);
    meanIs(weak, 0, 1);
  }

  private static void meanIs(BellHammer x, int sum, int many) {
    double due = (double) sum / many;
    if (Double.compare(x.mean(), due) != 0) {
      fail("mean() answered " + x.mean() + ", due is " + due);
    }
  }

  private static void tellsDigests() {
    sentence(21, "A number d starts with 761; for each of the following numbers x, d becomes d * 31"
        + " + x, which wraps around as a 64-bit integer");
    due(new BellHammer().digest(), 761L * 819628286980801L, "digest() of a new contest");
    due(new BellHammer().digest(), digestOf(0, 0, 0, 0, 0, 0, 0, 0, 0, 0), "digest()");
    due(taught(RAIL).digest(), digestOf(0, 1, 0, 0, 0, 0, 0, 0, 0, 0, 20, 4, 10, 0, 0), "a rail");
    BellHammer x = taught(RAIL + FIST + "prize p worth 0 - 5 of 2 when height = 15; turn f at a;");
    due(x.digest(), digestOf(0, 1, 1, 1, 1, 0, 0, 0, 0, 0, 20, 4, 10, 0, 0, 5, 0, 0, 0, 0, 0, 0, 0,
        1, 2, 0, -5, 0, 0, 0, 0, 1), "one of each sort");
    x.strike(0, 0);
    x.pass(1);
    feedText(x, "?");
    due(x.digest(), digestOf(1, 1, 1, 1, 1, 2, 0, -5, 2, 1, 20, 4, 10, 15, 2, 5, 0, 0, 8, -5, 2, 15,
        0, 1, 1, 1, -5, 0, 0, 0, 0, 1, 1, 15), "behind two strikes");
    for (int strikes = 0; strikes <= 12; strikes += 4) {
      BellHammer full = taught(fullBill());
      for (int i = 0; i < strikes; i++) {
        full.strike(i % 8, i % 4);
      }
      due(full.digest(), digestBySteps(full), "digest() of a full bill");
    }
  }

  private static long digestBySteps(BellHammer x) {
    long d = 761;
    for (int i = 0; i < 10; i++) {
      d = d * 31 + x.count(i);
    }
    for (int i = 0; i < 4 * 5; i++) {
      d = d * 31 + x.rail(i / 5, i % 5);
    }
    for (int i = 0; i < 8 * 9; i++) {
      d = d * 31 + x.fist(i / 9, i % 9);
    }
    for (int i = 0; i < 8 * 4; i++) {
      d = d * 31 + x.prize(i / 4, i % 4);
    }
    for (int i = 0; i < 20 * 4; i++) {
      d = d * 31 + x.turn(i / 4, i % 4);
    }
    for (int i = 0; i < x.count(8); i++) {
      d = d * 31 + x.board(i);
    }
    return d;
  }

  private static long digestOf(int... numbers) {
    int[] all = numbers.length > 0 ? numbers : new int[10];
    BigInteger d = BigInteger.valueOf(761);
    for (int x : all) {
      d = d.multiply(BigInteger.valueOf(31)).add(BigInteger.valueOf(x));
    }
    return d.longValue();
  }
}
